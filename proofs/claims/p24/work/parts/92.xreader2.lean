theorem dX4_readOne_0 : decode cX4_readOne 0 = .ok (.aload_n 0, 1) := by decide +kernel
theorem dX4_readOne_1 : decode cX4_readOne 1 = .ok (.getfield 12, 3) := by decide +kernel
theorem dX4_readOne_4 : decode cX4_readOne 4 = .ok (.ldc 104, 2) := by decide +kernel
theorem dX4_readOne_6 : decode cX4_readOne 6 = .ok (.invokevirtual 99, 3) := by decide +kernel
theorem dX4_readOne_9 : decode cX4_readOne 9 = .ok (.istore_n 2, 1) := by decide +kernel
theorem dX4_readOne_10 : decode cX4_readOne 10 = .ok (.iload_n 2, 1) := by decide +kernel
theorem dX4_readOne_11 : decode cX4_readOne 11 = .ok (.ifCond .ne 20, 3) := by decide +kernel
theorem dX4_readOne_14 : decode cX4_readOne 14 = .ok (.aload_n 0, 1) := by decide +kernel
theorem dX4_readOne_15 : decode cX4_readOne 15 = .ok (.getfield 12, 3) := by decide +kernel
theorem dX4_readOne_18 : decode cX4_readOne 18 = .ok (.bipush 40, 2) := by decide +kernel
theorem dX4_readOne_20 : decode cX4_readOne 20 = .ok (.invokevirtual 114, 3) := by decide +kernel
theorem dX4_readOne_23 : decode cX4_readOne 23 = .ok (.ifCond .ne 8, 3) := by decide +kernel
theorem dX4_readOne_26 : decode cX4_readOne 26 = .ok (.aload_n 0, 1) := by decide +kernel
theorem dX4_readOne_27 : decode cX4_readOne 27 = .ok (.invokevirtual 130, 3) := by decide +kernel
theorem dX4_readOne_30 : decode cX4_readOne 30 = .ok (.ireturn, 1) := by decide +kernel
theorem dX4_readOne_31 : decode cX4_readOne 31 = .ok (.iload_n 1, 1) := by decide +kernel
theorem dX4_readOne_32 : decode cX4_readOne 32 = .ok (.bipush 6, 2) := by decide +kernel
theorem dX4_readOne_34 : decode cX4_readOne 34 = .ok (.if_icmp .lt 16, 3) := by decide +kernel
theorem dX4_readOne_37 : decode cX4_readOne 37 = .ok (.aload_n 0, 1) := by decide +kernel
theorem dX4_readOne_38 : decode cX4_readOne 38 = .ok (.iconst 3, 1) := by decide +kernel
theorem dX4_readOne_39 : decode cX4_readOne 39 = .ok (.aload_n 0, 1) := by decide +kernel
theorem dX4_readOne_40 : decode cX4_readOne 40 = .ok (.getfield 12, 3) := by decide +kernel
theorem dX4_readOne_43 : decode cX4_readOne 43 = .ok (.getfield 73, 3) := by decide +kernel
theorem dX4_readOne_46 : decode cX4_readOne 46 = .ok (.invokevirtual 76, 3) := by decide +kernel
theorem dX4_readOne_49 : decode cX4_readOne 49 = .ok (.ireturn, 1) := by decide +kernel
theorem dX4_readOne_50 : decode cX4_readOne 50 = .ok (.aload_n 0, 1) := by decide +kernel
theorem dX4_readOne_51 : decode cX4_readOne 51 = .ok (.getfield 12, 3) := by decide +kernel
theorem dX4_readOne_54 : decode cX4_readOne 54 = .ok (.invokevirtual 94, 3) := by decide +kernel
theorem dX4_readOne_57 : decode cX4_readOne 57 = .ok (.iload_n 2, 1) := by decide +kernel
theorem dX4_readOne_58 : decode cX4_readOne 58 = .ok (.ifCond .ne 28, 3) := by decide +kernel
theorem dX4_readOne_61 : decode cX4_readOne 61 = .ok (.aload_n 0, 1) := by decide +kernel
theorem dX4_readOne_62 : decode cX4_readOne 62 = .ok (.iload_n 1, 1) := by decide +kernel
theorem dX4_readOne_63 : decode cX4_readOne 63 = .ok (.iconst 1, 1) := by decide +kernel
theorem dX4_readOne_64 : decode cX4_readOne 64 = .ok (.iadd, 1) := by decide +kernel
theorem dX4_readOne_65 : decode cX4_readOne 65 = .ok (.invokevirtual 43, 3) := by decide +kernel
theorem dX4_readOne_68 : decode cX4_readOne 68 = .ok (.ifCond .eq 16, 3) := by decide +kernel
theorem dX4_readOne_71 : decode cX4_readOne 71 = .ok (.aload_n 0, 1) := by decide +kernel
theorem dX4_readOne_72 : decode cX4_readOne 72 = .ok (.bipush 41, 2) := by decide +kernel
theorem dX4_readOne_74 : decode cX4_readOne 74 = .ok (.invokevirtual 39, 3) := by decide +kernel
theorem dX4_readOne_77 : decode cX4_readOne 77 = .ok (.ifCond .eq 7, 3) := by decide +kernel
theorem dX4_readOne_80 : decode cX4_readOne 80 = .ok (.iconst 1, 1) := by decide +kernel
theorem dX4_readOne_81 : decode cX4_readOne 81 = .ok (.goto 4, 3) := by decide +kernel
theorem dX4_readOne_84 : decode cX4_readOne 84 = .ok (.iconst 0, 1) := by decide +kernel
theorem dX4_readOne_85 : decode cX4_readOne 85 = .ok (.ireturn, 1) := by decide +kernel
theorem dX4_readOne_86 : decode cX4_readOne 86 = .ok (.aload_n 0, 1) := by decide +kernel
theorem dX4_readOne_87 : decode cX4_readOne 87 = .ok (.iload_n 1, 1) := by decide +kernel
theorem dX4_readOne_88 : decode cX4_readOne 88 = .ok (.iconst 1, 1) := by decide +kernel
theorem dX4_readOne_89 : decode cX4_readOne 89 = .ok (.iadd, 1) := by decide +kernel
theorem dX4_readOne_90 : decode cX4_readOne 90 = .ok (.invokevirtual 120, 3) := by decide +kernel
theorem dX4_readOne_93 : decode cX4_readOne 93 = .ok (.istore_n 3, 1) := by decide +kernel
theorem dX4_readOne_94 : decode cX4_readOne 94 = .ok (.aload_n 0, 1) := by decide +kernel
theorem dX4_readOne_95 : decode cX4_readOne 95 = .ok (.iconst (-1), 1) := by decide +kernel
theorem dX4_readOne_96 : decode cX4_readOne 96 = .ok (.invokevirtual 126, 3) := by decide +kernel
theorem dX4_readOne_99 : decode cX4_readOne 99 = .ok (.iload_n 3, 1) := by decide +kernel
theorem dX4_readOne_100 : decode cX4_readOne 100 = .ok (.ireturn, 1) := by decide +kernel
theorem dX4_readEither_0 : decode cX4_readEither 0 = .ok (.aload_n 0, 1) := by decide +kernel
theorem dX4_readEither_1 : decode cX4_readEither 1 = .ok (.iload_n 1, 1) := by decide +kernel
theorem dX4_readEither_2 : decode cX4_readEither 2 = .ok (.invokevirtual 120, 3) := by decide +kernel
theorem dX4_readEither_5 : decode cX4_readEither 5 = .ok (.istore_n 2, 1) := by decide +kernel
theorem dX4_readEither_6 : decode cX4_readEither 6 = .ok (.iconst 0, 1) := by decide +kernel
theorem dX4_readEither_7 : decode cX4_readEither 7 = .ok (.istore_n 3, 1) := by decide +kernel
theorem dX4_readEither_8 : decode cX4_readEither 8 = .ok (.iconst 0, 1) := by decide +kernel
theorem dX4_readEither_9 : decode cX4_readEither 9 = .ok (.istore 4, 2) := by decide +kernel
theorem dX4_readEither_11 : decode cX4_readEither 11 = .ok (.iload 4, 2) := by decide +kernel
theorem dX4_readEither_13 : decode cX4_readEither 13 = .ok (.sipush 400, 3) := by decide +kernel
theorem dX4_readEither_16 : decode cX4_readEither 16 = .ok (.if_icmp .ge 85, 3) := by decide +kernel
theorem dX4_readEither_19 : decode cX4_readEither 19 = .ok (.iload_n 2, 1) := by decide +kernel
theorem dX4_readEither_20 : decode cX4_readEither 20 = .ok (.ifCond .eq 81, 3) := by decide +kernel
theorem dX4_readEither_23 : decode cX4_readEither 23 = .ok (.aload_n 0, 1) := by decide +kernel
theorem dX4_readEither_24 : decode cX4_readEither 24 = .ok (.invokevirtual 123, 3) := by decide +kernel
theorem dX4_readEither_27 : decode cX4_readEither 27 = .ok (.ifCond .eq 74, 3) := by decide +kernel
theorem dX4_readEither_30 : decode cX4_readEither 30 = .ok (.aload_n 0, 1) := by decide +kernel
theorem dX4_readEither_31 : decode cX4_readEither 31 = .ok (.getfield 12, 3) := by decide +kernel
theorem dX4_readEither_34 : decode cX4_readEither 34 = .ok (.ldc 102, 2) := by decide +kernel
theorem dX4_readEither_36 : decode cX4_readEither 36 = .ok (.invokevirtual 99, 3) := by decide +kernel
theorem dX4_readEither_39 : decode cX4_readEither 39 = .ok (.istore 5, 2) := by decide +kernel
theorem dX4_readEither_41 : decode cX4_readEither 41 = .ok (.iload 5, 2) := by decide +kernel
theorem dX4_readEither_43 : decode cX4_readEither 43 = .ok (.ifCond .ne 13, 3) := by decide +kernel
theorem dX4_readEither_46 : decode cX4_readEither 46 = .ok (.iload_n 3, 1) := by decide +kernel
theorem dX4_readEither_47 : decode cX4_readEither 47 = .ok (.ifCond .eq 9, 3) := by decide +kernel
theorem dX4_readEither_50 : decode cX4_readEither 50 = .ok (.aload_n 0, 1) := by decide +kernel
theorem dX4_readEither_51 : decode cX4_readEither 51 = .ok (.bipush (-3), 2) := by decide +kernel
theorem dX4_readEither_53 : decode cX4_readEither 53 = .ok (.invokevirtual 126, 3) := by decide +kernel
theorem dX4_readEither_56 : decode cX4_readEither 56 = .ok (.iload_n 3, 1) := by decide +kernel
theorem dX4_readEither_57 : decode cX4_readEither 57 = .ok (.ifCond .ne 8, 3) := by decide +kernel
theorem dX4_readEither_60 : decode cX4_readEither 60 = .ok (.iload 5, 2) := by decide +kernel
theorem dX4_readEither_62 : decode cX4_readEither 62 = .ok (.ifCond .ne 7, 3) := by decide +kernel
theorem dX4_readEither_65 : decode cX4_readEither 65 = .ok (.iconst 1, 1) := by decide +kernel
theorem dX4_readEither_66 : decode cX4_readEither 66 = .ok (.goto 4, 3) := by decide +kernel
theorem dX4_readEither_69 : decode cX4_readEither 69 = .ok (.iconst 0, 1) := by decide +kernel
theorem dX4_readEither_70 : decode cX4_readEither 70 = .ok (.istore_n 3, 1) := by decide +kernel
theorem dX4_readEither_71 : decode cX4_readEither 71 = .ok (.aload_n 0, 1) := by decide +kernel
theorem dX4_readEither_72 : decode cX4_readEither 72 = .ok (.getfield 12, 3) := by decide +kernel
theorem dX4_readEither_75 : decode cX4_readEither 75 = .ok (.invokevirtual 94, 3) := by decide +kernel
theorem dX4_readEither_78 : decode cX4_readEither 78 = .ok (.aload_n 0, 1) := by decide +kernel
theorem dX4_readEither_79 : decode cX4_readEither 79 = .ok (.iload_n 1, 1) := by decide +kernel
theorem dX4_readEither_80 : decode cX4_readEither 80 = .ok (.invokevirtual 120, 3) := by decide +kernel
theorem dX4_readEither_83 : decode cX4_readEither 83 = .ok (.istore_n 2, 1) := by decide +kernel
theorem dX4_readEither_84 : decode cX4_readEither 84 = .ok (.iload 5, 2) := by decide +kernel
theorem dX4_readEither_86 : decode cX4_readEither 86 = .ok (.ifCond .eq 9, 3) := by decide +kernel
theorem dX4_readEither_89 : decode cX4_readEither 89 = .ok (.aload_n 0, 1) := by decide +kernel
theorem dX4_readEither_90 : decode cX4_readEither 90 = .ok (.bipush (-2), 2) := by decide +kernel
theorem dX4_readEither_92 : decode cX4_readEither 92 = .ok (.invokevirtual 126, 3) := by decide +kernel
theorem dX4_readEither_95 : decode cX4_readEither 95 = .ok (.iinc 4 1, 3) := by decide +kernel
theorem dX4_readEither_98 : decode cX4_readEither 98 = .ok (.goto (-87), 3) := by decide +kernel
theorem dX4_readEither_101 : decode cX4_readEither 101 = .ok (.iload_n 3, 1) := by decide +kernel
theorem dX4_readEither_102 : decode cX4_readEither 102 = .ok (.ifCond .eq 9, 3) := by decide +kernel
theorem dX4_readEither_105 : decode cX4_readEither 105 = .ok (.aload_n 0, 1) := by decide +kernel
theorem dX4_readEither_106 : decode cX4_readEither 106 = .ok (.bipush (-3), 2) := by decide +kernel
theorem dX4_readEither_108 : decode cX4_readEither 108 = .ok (.invokevirtual 126, 3) := by decide +kernel
theorem dX4_readEither_111 : decode cX4_readEither 111 = .ok (.iload_n 2, 1) := by decide +kernel
theorem dX4_readEither_112 : decode cX4_readEither 112 = .ok (.ireturn, 1) := by decide +kernel
set_option maxRecDepth 20000 in
theorem ggX4_readOne_X6_isWord : GoodIn wsX4_readOne wsX6_isWord := goodIn_r _ [7, 8, 9, 10, 11, 12, 13, 14, 15, 16, 17, 18, 19, 20, 21, 22, 23, 24, 25, 6, 26, 27, 28, 29, 30, 31, 32, 33, 34, 35, 36, 37, 38, 39, 40, 41, 42, 43, 44, 45, 46, 47, 48, 49, 50, 51, 52, 53, 54, 55, 56, 57, 58, 59, 60, 61, 62, 63, 64, 65, 139, 140, 141, 142, 143] (by decide +kernel) (by decide +kernel)
set_option maxRecDepth 20000 in
theorem gX4_readOne_X6_isWord : GoodIn wsX4_readOne (wsV RX4 99 RX6 yX6_isWord wsX6_isWord) := goodIn_app (goodIn_of _ (by decide +kernel)) ggX4_readOne_X6_isWord
set_option maxRecDepth 20000 in
theorem ggX4_readOne_X6_isByte : GoodIn wsX4_readOne wsX6_isByte := goodIn_r _ [69, 8, 10, 23, 24, 25, 6, 26, 27, 28, 139, 140, 141, 142, 143] (by decide +kernel) (by decide +kernel)
set_option maxRecDepth 20000 in
theorem gX4_readOne_X6_isByte : GoodIn wsX4_readOne (wsV RX4 114 RX6 yX6_isByte wsX6_isByte) := goodIn_app (goodIn_of _ (by decide +kernel)) ggX4_readOne_X6_isByte
set_option maxRecDepth 20000 in
theorem ggX4_readOne_X4_readTest : GoodIn wsX4_readOne wsX4_readTest := goodIn_r _ [74, 1, 75, 76, 77, 78, 73, 79, 3, 4, 5, 6, 7, 8, 9, 10, 11, 12, 13, 14, 15, 16, 17, 18, 19, 20, 21, 22, 23, 24, 25, 26, 27, 28, 29, 30, 31, 32, 33, 34, 35, 36, 37, 38, 39, 40, 41, 42, 43, 44, 45, 46, 47, 48, 49, 50, 51, 52, 53, 54, 55, 56, 57, 58, 59, 60, 61, 62, 63, 64, 65, 80, 81, 82, 83, 2, 84, 85, 86, 87, 88, 89, 90, 91, 92, 93, 94, 95, 96, 97, 98, 99, 100, 101, 102, 103, 104, 105, 106, 107, 108, 109, 110, 111, 112, 113, 114, 115, 131, 132, 133, 134, 135, 136, 137, 138, 139, 140, 141, 142, 143] (by decide +kernel) (by decide +kernel)
set_option maxRecDepth 20000 in
theorem gX4_readOne_X4_readTest : GoodIn wsX4_readOne (wsV RX4 130 RX4 yX4_readTest wsX4_readTest) := goodIn_app (goodIn_of _ (by decide +kernel)) ggX4_readOne_X4_readTest
set_option maxRecDepth 20000 in
theorem ggX4_readOne_X4_failAt : GoodIn wsX4_readOne wsX4_failAt := goodIn_r _ [87, 88, 89, 131, 132, 133, 134, 135, 136, 137, 138] (by decide +kernel) (by decide +kernel)
set_option maxRecDepth 20000 in
theorem gX4_readOne_X4_failAt : GoodIn wsX4_readOne (wsV RX4 76 RX4 yX4_failAt wsX4_failAt) := goodIn_app (goodIn_of _ (by decide +kernel)) ggX4_readOne_X4_failAt
set_option maxRecDepth 20000 in
theorem ggX4_readEither_X4_readOne : GoodIn wsX4_readEither wsX4_readOne := goodIn_r _ [86, 1, 87, 10, 11, 12, 13, 14, 15, 16, 17, 18, 19, 20, 21, 22, 23, 24, 25, 26, 27, 28, 29, 30, 31, 32, 33, 34, 35, 36, 37, 38, 39, 40, 41, 42, 43, 44, 45, 46, 47, 48, 49, 50, 51, 52, 53, 54, 55, 56, 57, 58, 59, 60, 61, 62, 63, 64, 65, 66, 67, 68, 69, 70, 71, 72, 88, 89, 90, 91, 92, 93, 94, 5, 95, 96, 97, 98, 99, 100, 101, 102, 103, 104, 105, 106, 107, 108, 109, 110, 79, 80, 81, 82, 83, 84, 85, 111, 112, 113, 114, 115, 116, 117, 118, 119, 120, 121, 122, 123, 73, 74, 75, 76, 77, 78, 124, 125, 126, 127, 128, 129, 130, 2, 3, 4, 0, 6, 7, 8, 9, 131, 132, 133, 134, 135, 136, 137, 138, 139, 140, 141, 142, 143] (by decide +kernel) (by decide +kernel)
set_option maxRecDepth 20000 in
theorem gX4_readEither_X4_readOne : GoodIn wsX4_readEither (wsV RX4 120 RX4 yX4_readOne wsX4_readOne) := goodIn_app (goodIn_of _ (by decide +kernel)) ggX4_readEither_X4_readOne
set_option maxRecDepth 20000 in
theorem ggX4_readEither_X4_addCode : GoodIn wsX4_readEither wsX4_addCode := goodIn_r _ [76, 77, 78, 131, 132, 133, 134, 135, 136, 137, 138] (by decide +kernel) (by decide +kernel)
set_option maxRecDepth 20000 in
theorem gX4_readEither_X4_addCode : GoodIn wsX4_readEither (wsV RX4 126 RX4 yX4_addCode wsX4_addCode) := goodIn_app (goodIn_of _ (by decide +kernel)) ggX4_readEither_X4_addCode
set_option maxRecDepth 20000 in
theorem ggX4_readEither_X4_isAndOr : GoodIn wsX4_readEither wsX4_isAndOr := goodIn_r _ [9, 1, 10, 11, 12, 13, 14, 15, 16, 17, 18, 19, 20, 21, 22, 23, 24, 25, 26, 27, 28, 29, 30, 31, 32, 33, 34, 35, 36, 37, 38, 39, 40, 41, 42, 43, 44, 45, 46, 47, 48, 49, 50, 51, 52, 53, 54, 55, 56, 57, 58, 59, 60, 61, 62, 63, 64, 65, 66, 67, 68, 69, 70, 71, 72, 131, 132, 133, 134, 135, 136, 137, 138, 139, 140, 141, 142, 143] (by decide +kernel) (by decide +kernel)
set_option maxRecDepth 20000 in
theorem gX4_readEither_X4_isAndOr : GoodIn wsX4_readEither (wsV RX4 123 RX4 yX4_isAndOr wsX4_isAndOr) := goodIn_app (goodIn_of _ (by decide +kernel)) ggX4_readEither_X4_isAndOr
set_option maxRecDepth 20000 in
theorem ggX4_readEither_X6_isWord : GoodIn wsX4_readEither wsX6_isWord := goodIn_r _ [14, 15, 16, 17, 18, 19, 20, 21, 22, 23, 24, 25, 26, 27, 28, 29, 30, 31, 32, 13, 33, 34, 35, 36, 37, 38, 39, 40, 41, 42, 43, 44, 45, 46, 47, 48, 49, 50, 51, 52, 53, 54, 55, 56, 57, 58, 59, 60, 61, 62, 63, 64, 65, 66, 67, 68, 69, 70, 71, 72, 139, 140, 141, 142, 143] (by decide +kernel) (by decide +kernel)
set_option maxRecDepth 20000 in
theorem gX4_readEither_X6_isWord : GoodIn wsX4_readEither (wsV RX4 99 RX6 yX6_isWord wsX6_isWord) := goodIn_app (goodIn_of _ (by decide +kernel)) ggX4_readEither_X6_isWord
set_option maxRecDepth 20000 in
theorem ggX4_readEither_X6_advance : GoodIn wsX4_readEither wsX6_advance := goodIn_r _ [82, 16, 34, 17, 15, 30, 31, 32, 13, 33, 35, 83, 84, 85, 139, 140, 141, 142, 143] (by decide +kernel) (by decide +kernel)
set_option maxRecDepth 20000 in
theorem gX4_readEither_X6_advance : GoodIn wsX4_readEither (wsV RX4 94 RX6 yX6_advance wsX6_advance) := goodIn_app (goodIn_of _ (by decide +kernel)) ggX4_readEither_X6_advance
set_option maxRecDepth 20000 in
theorem ggX4_readOne_X6_advance : GoodIn wsX4_readOne wsX6_advance := goodIn_r _ [93, 9, 27, 10, 8, 23, 24, 25, 6, 26, 28, 94, 95, 96, 139, 140, 141, 142, 143] (by decide +kernel) (by decide +kernel)
set_option maxRecDepth 20000 in
theorem gX4_readOne_X6_advance : GoodIn wsX4_readOne (wsV RX4 94 RX6 yX6_advance wsX6_advance) := goodIn_app (goodIn_of _ (by decide +kernel)) ggX4_readOne_X6_advance
set_option maxRecDepth 20000 in
theorem ggX4_readOne_X4_readEither : GoodIn wsX4_readOne wsX4_readEither := goodIn_r _ [126, 1, 123, 124, 125, 73, 127, 128, 129, 130, 3, 4, 5, 6, 7, 8, 9, 10, 11, 12, 13, 14, 15, 16, 17, 18, 19, 20, 21, 22, 23, 24, 25, 26, 27, 28, 29, 30, 31, 32, 33, 34, 35, 36, 37, 38, 39, 40, 41, 42, 43, 44, 45, 46, 47, 48, 49, 50, 51, 52, 53, 54, 55, 56, 57, 58, 59, 60, 61, 62, 63, 64, 65, 110, 111, 112, 113, 114, 115, 90, 91, 92, 93, 94, 95, 96, 0, 2, 66, 67, 68, 69, 70, 71, 72, 74, 75, 76, 77, 78, 79, 80, 81, 82, 83, 84, 85, 86, 87, 88, 89, 97, 98, 99, 100, 101, 102, 103, 104, 105, 106, 107, 108, 109, 116, 117, 118, 119, 120, 121, 122, 131, 132, 133, 134, 135, 136, 137, 138, 139, 140, 141, 142, 143] (by decide +kernel) (by decide +kernel)
set_option maxRecDepth 20000 in
theorem gX4_readOne_X4_readEither : GoodIn wsX4_readOne (wsV RX4 43 RX4 yX4_readEither wsX4_readEither) := goodIn_app (goodIn_of _ (by decide +kernel)) ggX4_readOne_X4_readEither
set_option maxRecDepth 20000 in
theorem ggX4_readOne_X4_readByte : GoodIn wsX4_readOne wsX4_readByte := goodIn_r _ [122, 1, 66, 67, 68, 6, 69, 8, 10, 23, 24, 25, 26, 27, 28, 80, 81, 82, 73, 83, 2, 84, 85, 86, 87, 88, 89, 90, 91, 92, 93, 9, 94, 95, 96, 131, 132, 133, 134, 135, 136, 137, 138, 139, 140, 141, 142, 143] (by decide +kernel) (by decide +kernel)
set_option maxRecDepth 20000 in
theorem gX4_readOne_X4_readByte : GoodIn wsX4_readOne (wsV RX4 39 RX4 yX4_readByte wsX4_readByte) := goodIn_app (goodIn_of _ (by decide +kernel)) ggX4_readOne_X4_readByte
set_option maxRecDepth 20000 in
theorem ggX4_readOne_X4_readOne : GoodIn wsX4_readOne wsX4_readOne := goodIn_r _ [0, 1, 2, 3, 4, 5, 6, 7, 8, 9, 10, 11, 12, 13, 14, 15, 16, 17, 18, 19, 20, 21, 22, 23, 24, 25, 26, 27, 28, 29, 30, 31, 32, 33, 34, 35, 36, 37, 38, 39, 40, 41, 42, 43, 44, 45, 46, 47, 48, 49, 50, 51, 52, 53, 54, 55, 56, 57, 58, 59, 60, 61, 62, 63, 64, 65, 66, 67, 68, 69, 70, 71, 72, 73, 74, 75, 76, 77, 78, 79, 80, 81, 82, 83, 84, 85, 86, 87, 88, 89, 90, 91, 92, 93, 94, 95, 96, 97, 98, 99, 100, 101, 102, 103, 104, 105, 106, 107, 108, 109, 110, 111, 112, 113, 114, 115, 116, 117, 118, 119, 120, 121, 122, 123, 124, 125, 126, 127, 128, 129, 130, 131, 132, 133, 134, 135, 136, 137, 138, 139, 140, 141, 142, 143] (by decide +kernel) (by decide +kernel)
set_option maxRecDepth 20000 in
theorem gX4_readOne_X4_readOne : GoodIn wsX4_readOne (wsV RX4 120 RX4 yX4_readOne wsX4_readOne) := goodIn_app (goodIn_of _ (by decide +kernel)) ggX4_readOne_X4_readOne
set_option maxRecDepth 20000 in
theorem ggX4_readOne_X4_addCode : GoodIn wsX4_readOne wsX4_addCode := goodIn_r _ [113, 114, 115, 131, 132, 133, 134, 135, 136, 137, 138] (by decide +kernel) (by decide +kernel)
set_option maxRecDepth 20000 in
theorem gX4_readOne_X4_addCode : GoodIn wsX4_readOne (wsV RX4 126 RX4 yX4_addCode wsX4_addCode) := goodIn_app (goodIn_of _ (by decide +kernel)) ggX4_readOne_X4_addCode
set_option maxHeartbeats 4000000 in
set_option maxRecDepth 100000 in
theorem r_readOne6 (l : Launch) (D : va_G) (ws : va_W) (tys : List (ClassId × FieldType)) (adK adV : Nat → Nat) (fo : Option Nat) (rd krd tp ktp cd bb tl : Nat)  (sz : Nat) (R0 : RS ws tys rd krd tp ktp cd bb tl)  : Met l yX4_readOne wsX4_readOne ({ frames := 7, cells := 0, slots := 0, locals := 149 }) (va_Pc [.ref rd, .int 6] (fun U => U.heap.size = sz ∧ va_P D vwCl ws U.heap ∧ va_K D vwCl tys U ∧ va_D (fun _ => True) ws ∧ SZ adK adV fo (va_A ws sz) U U.heap)) (va_Qi (fun (r : Int32) (_ : Unit) => r = 0 ∨ r = 1) (fun (_ : Unit) (t : State) => ∃ (ws' : va_W) (tys' : List (ClassId × FieldType)), sm [4, 6] ws ws' ∧ tyx tys tys' ∧ va_P D vwCl ws' t.heap ∧ va_K D vwCl tys' t ∧ va_D (va_A ws sz) ws' ∧ RS ws' tys' rd krd tp ktp cd bb tl) (va_A ws sz)) 0 0 (va_A ws sz) := by
  refine Met.ofW (cc := cX4_readOne) (maxL := 4) (ret := (some .boolean)) (by decide) rfl ?_
  intro p e s m args below meth c s₁ B hml hv
  obtain ⟨rfl, hsz, hP, hK, hD0, hsz9⟩ := hv
  have hx := B.exec
  have hb := B.bytes
  have hr := B.returns
  have hts := atoms_spec (ws := wsX4_readOne) B.pre
  have hown : s.vm.findClass RX4 = some m.cls := findClass_of_methodNamed B.named
  have hlocks := B.notSynchronized
  subst hsz
  have hD := hD0.self (sz := s.heap.size)
  generalize hAe : va_A ws s.heap.size = A at hD hsz9 ⊢
  have hA : ∀ q : Nat, s.heap.size ≤ q → A q := fun q h => by rw [← hAe]; exact Or.inr h
  have hS : va_S A s.heap s.heap [] := va_S.rf
  have hsm : sm [4, 6] ws ws := sm.rf ws
  have htx : tyx tys tys := tyx.rf tys
  have hin4 : ∀ w ∈ u_ws RX4 TX4 8, w ∈ wsX4_readOne := (fun _ h9 => List.mem_cons_of_mem _ (List.mem_append_left _ ((List.mem_append_right _ h9))))
  have hin6 : ∀ w ∈ u_ws RX6 TX6 5, w ∈ wsX4_readOne := (fun _ h9 => List.mem_cons_of_mem _ ((List.mem_append_right _ h9)))
  have hl := lv_entry ([.ref rd, .int 6]) (n := 4) (Nat.le_of_ble_eq_true rfl)
  rw [lg_entry_eq]
  generalize (lg_sl ([.ref rd, .int 6]) ++ List.replicate (4 - (lg_sl ([.ref rd, .int 6])).length) Slot.unset).toArray = ls at hl ⊢
  have hl : lv_has ls 4 [(0, .ref rd), (1, .int 6)] := hl
  obtain ⟨ts_1, te_2, cc_3, ra_4, rb_5, rc_6, rv_7, re_8, ya_9, h1_10, h2_11, h3_12, h4_13, er_14, et_15, ⟨k_16, c9_17, t_18, f_19, e_20, u_21⟩, ⟨k_22, c9_23, t_24, f_25, e_26, u_27⟩⟩ := id R0
  refine lv_aload_n hx hb dX4_readOne_0 rfl (lv_at hl 0 rfl) ?_
  refine va_get (D := D) (ci := 4) (v := .ref tp) (C := RX4) (T := TX4) (N := 8) hx hb hts hin4 hown hK hP krd er_14 rfl 0 (by decide) (hts (.fieldLink RX4 12 "HoneyHouse$RuleReader" "tape" "LHoneyHouse$Tape;") (List.mem_of_getElem? (i := 1) rfl)) (fun _ h9 => h9) rfl dX4_readOne_1 ?_
  refine va_ldcS hx hb hown hsz9.2.2.2.2.2.2.1 dX4_readOne_4 ?_
  have hFc := free_all hD hS hA
  refine va_calli (va_runV (As := [.ref (adK 3)]) (rest := []) ⟨hx, hb, hml, hown, hts⟩ (a_isWord l D ws tys adK adV fo 3 tp ktp tl ya_9 (nI ts_1) (nI te_2) bb k_22 c9_23 t_24 f_25 s.heap.size (by decide) et_15 e_26 u_27) (cwV 1 hts gX4_readOne_X6_isWord rfl rfl rfl (by decide +kernel) ⟨Nat.le_of_ble_eq_true rfl, Nat.le_of_ble_eq_true rfl⟩) ⟨fun a U g mk q => by obtain ⟨q0, q1, qP, qK, qD, qS⟩ := q; exact ⟨q0, q1, qP, va_K.moved (u := U) (U := U.calling g mk a) (Vm.Alike.refl U.vm) qK, qD, SZ.same rfl rfl qS⟩, va_recv hK hP (ci := 6) (q0 := ktp) rfl et_15, fun U hU hW => ⟨rfl, by rw [hU], by rw [hU]; exact hP, va_K.moved hW.alike hK, hD.weaken (fun _ _ _ _ => trivial), hsz9.go hS hW hU hFc⟩⟩ rfl rfl hl.1 rfl (lv_room (Nat.le_of_ble_eq_true rfl)) dX4_readOne_6 ⟨Nat.le_of_ble_eq_true rfl, Nat.le_of_ble_eq_true rfl⟩) hS (fun q _ h => hFc q h) hFc (fun r_28 u t H1 locs ht hvm w_29 hB hz1 hk1 hS => ?_)
  obtain ⟨ws_30, ty_31, hm_32, ht_34, hP1, hK1, hD1, hx_33⟩ := hB
  rw [ht] at hP1
  have hK := va_K.moved hvm.symm hK1
  have hD := hD1.weaken (fun _ _ _ h => hFc _ h)
  generalize H1 = H at hP1 hS ⊢
  have hP := hP1
  have e_35 := hm_32.objK er_14 (by decide)
  have e_36 := hm_32.objK et_15 (by decide)
  obtain ⟨f_38, e_37⟩ := hm_32.arrI e_20
  have u_39 := ht_34 _ _ u_21
  obtain ⟨f_41, e_40⟩ := hm_32.arrI e_26
  have u_42 := ht_34 _ _ u_27
  have hsm := hsm.tr (hm_32.mono (by decide))
  have htx := htx.tr ht_34
  rcases w_29 with rfl | rfl
  · refine lv_istore_n (lv' := [(2, .int 0), (0, .ref rd), (1, .int 6)]) hx hb dX4_readOne_9 rfl hl (by decide) rfl (fun ls hl => ?_)
    refine lv_iload_n hx hb dX4_readOne_10 rfl (lv_at hl 0 rfl) ?_
    refine lv_if_ne (tgt := 31) hx hb dX4_readOne_11 (by decide) (fun c_43 => absurd (by decide) c_43) (fun c_43 => ?_)
    refine lv_aload_n hx hb dX4_readOne_14 rfl (lv_at hl 1 rfl) ?_
    refine va_get (D := D) (ci := 4) (v := .ref tp) (C := RX4) (T := TX4) (N := 8) hx hb hts hin4 hown hK hP krd e_35 rfl 0 (by decide) (hts (.fieldLink RX4 12 "HoneyHouse$RuleReader" "tape" "LHoneyHouse$Tape;") (List.mem_of_getElem? (i := 1) rfl)) (fun _ h9 => h9) rfl dX4_readOne_15 ?_
    refine lv_bipush (v := 40) hx hb dX4_readOne_18 (by decide) ?_
    refine vp_callSi (W.runV (As := [.int 40]) (rest := []) ⟨hx, hb, hml, hown, hts⟩ (s_isByte l D ws_30 ty_31 tp ktp tl ya_9 (nI ts_1) (nI te_2) bb k_22 c9_23 t_24 f_41 40 e_36 e_40 u_42) (cwV 1 hts gX4_readOne_X6_isByte rfl rfl rfl (by decide +kernel) ⟨Nat.le_of_ble_eq_true rfl, Nat.le_of_ble_eq_true rfl⟩) ⟨fun a U g mk q => ⟨q.1, q.2.1, va_K.moved (u := U) (U := U.calling g mk a) (Vm.Alike.refl U.vm) q.2.2⟩, va_recv hK hP (ci := 6) (q0 := ktp) rfl e_36, fun U hU hW => ⟨rfl, by rw [hU]; exact hP, va_K.moved hW.alike hK⟩⟩ rfl rfl hl.1 rfl (lv_room (Nat.le_of_ble_eq_true rfl)) dX4_readOne_20 ⟨Nat.le_of_ble_eq_true rfl, Nat.le_of_ble_eq_true rfl⟩) (fun r_44 k_45 => ?_)
    rcases k_45 with rfl | rfl
    · refine lv_if_ne (tgt := 31) hx hb dX4_readOne_23 (by decide) (fun c_46 => absurd (by decide) c_46) (fun c_46 => ?_)
      refine lv_aload_n hx hb dX4_readOne_26 rfl (lv_at hl 1 rfl) ?_
      have hFc := free_all hD hS hA
      refine va_calli (va_runV (As := []) (rest := []) ⟨hx, hb, hml, hown, hts⟩ (r_readTest l D ws_30 ty_31 adK adV fo rd krd tp ktp cd bb tl  H.size (⟨ts_1, te_2, cc_3, ra_4, rb_5, rc_6, rv_7, re_8, ya_9, by omega, by omega, by omega, by omega, e_35, e_36, ⟨k_16, c9_17, t_18, f_38, e_37, u_39⟩, ⟨k_22, c9_23, t_24, f_41, e_40, u_42⟩⟩ : RS ws_30 ty_31 rd krd tp ktp cd bb tl)) (cwV 0 hts gX4_readOne_X4_readTest rfl rfl rfl (by decide +kernel) ⟨Nat.le_of_ble_eq_true rfl, Nat.le_of_ble_eq_true rfl⟩) ⟨fun a U g mk q => by obtain ⟨q0, q1, qP, qK, qD, qS⟩ := q; exact ⟨q0, q1, qP, va_K.moved (u := U) (U := U.calling g mk a) (Vm.Alike.refl U.vm) qK, qD, SZ.same rfl rfl qS⟩, va_recv hK hP (ci := 4) (q0 := krd) rfl e_35, fun U hU hW => ⟨rfl, by rw [hU], by rw [hU]; exact hP, va_K.moved hW.alike hK, hD.weaken (fun _ _ _ _ => trivial), hsz9.go hS hW hU hFc⟩⟩ rfl rfl hl.1 rfl (lv_room (Nat.le_of_ble_eq_true rfl)) dX4_readOne_27 ⟨Nat.le_of_ble_eq_true rfl, Nat.le_of_ble_eq_true rfl⟩) hS (fun q _ h => hFc q h) hFc (fun r_47 u t H1 locs ht hvm w_48 hB hz1 hk1 hS => ?_)
      obtain ⟨ws_49, ty_50, hm_51, ht_53, hP1, hK1, hD1, hx_52⟩ := hB
      rw [ht] at hP1
      have hK := va_K.moved hvm.symm hK1
      have hD := hD1.weaken (fun _ _ _ h => hFc _ h)
      generalize H1 = H at hP1 hS ⊢
      have hP := hP1
      obtain ⟨g_55, e_54, h_56⟩ := hm_51.obj e_35
      obtain ⟨z_57, z_58, z_59, z_60, z_61, z_62, rfl⟩ := smX4 h_56
      obtain ⟨g_64, e_63, h_65⟩ := hm_51.obj e_36
      obtain ⟨z_66, z_67, z_68, z_69, rfl⟩ := smX6 h_65
      obtain ⟨f_71, e_70⟩ := hm_51.arrI e_37
      have u_72 := ht_53 _ _ u_39
      obtain ⟨f_74, e_73⟩ := hm_51.arrI e_40
      have u_75 := ht_53 _ _ u_42
      have hsm := hsm.tr (hm_51.mono (by decide))
      have htx := htx.tr ht_53
      obtain ⟨ts_76, te_77, cc_78, ra_79, rb_80, rc_81, rv_82, re_83, ya_84, h1_85, h2_86, h3_87, h4_88, er_89, et_90, ⟨k_91, c9_92, t_93, f_94, e_95, u_96⟩, ⟨k_97, c9_98, t_99, f_100, e_101, u_102⟩⟩ := id hx_52
      exact W.zret (v := r_47) hx hb hr (by rcases w_48 with h9 | h9 <;> rw [h9] <;> rfl) (fun t ht hW => ⟨⟨r_47, (), rfl, w_48, ws_49, ty_50, hsm, htx, by rw [ht]; exact hP, va_K.moved hW.alike hK, hD, (⟨ts_76, te_77, cc_78, ra_79, rb_80, rc_81, rv_82, re_83, ya_84, by omega, by omega, by omega, by omega, er_89, et_90, ⟨k_91, c9_92, t_93, f_94, e_95, u_96⟩, ⟨k_97, c9_98, t_99, f_100, e_101, u_102⟩⟩ : RS ws_49 ty_50 rd krd tp ktp cd bb tl)⟩, hS.F ht⟩) hS.2.2 dX4_readOne_30
    refine lv_if_ne (tgt := 31) hx hb dX4_readOne_23 (by decide) (fun c_103 => ?_) (fun c_103 => absurd c_103 (by decide))
    refine lv_iload_n hx hb dX4_readOne_31 rfl (lv_at hl 2 rfl) ?_
    refine lv_bipush (v := 6) hx hb dX4_readOne_32 (by decide) ?_
    refine lv_icmp_lt (tgt := 50) hx hb dX4_readOne_34 (by decide) (fun c_104 => absurd c_104 (by decide)) (fun c_104 => ?_)
    refine lv_aload_n hx hb dX4_readOne_37 rfl (lv_at hl 1 rfl) ?_
    refine lv_iconst (v := 3) hx hb dX4_readOne_38 (by decide) ?_
    refine lv_aload_n hx hb dX4_readOne_39 rfl (lv_at hl 1 rfl) ?_
    refine va_get (D := D) (ci := 4) (v := .ref tp) (C := RX4) (T := TX4) (N := 8) hx hb hts hin4 hown hK hP krd e_35 rfl 0 (by decide) (hts (.fieldLink RX4 12 "HoneyHouse$RuleReader" "tape" "LHoneyHouse$Tape;") (List.mem_of_getElem? (i := 1) rfl)) (fun _ h9 => h9) rfl dX4_readOne_40 ?_
    refine va_get (D := D) (ci := 6) (v := .int (nI ts_1)) (C := RX6) (T := TX6) (N := 5) hx hb hts hin6 hown hK hP ktp e_36 rfl 2 (by decide) (hts (.fieldLink RX4 73 "HoneyHouse$Tape" "start" "I") (List.mem_of_getElem? (i := 2) rfl)) (fun _ h9 => h9) rfl dX4_readOne_43 ?_
    have hFc := free_all hD hS hA
    refine va_calli (va_runV (As := [.int 3, .int (nI ts_1)]) (rest := []) ⟨hx, hb, hml, hown, hts⟩ (r_failAt l D ws_30 ty_31 adK adV fo rd krd tp ktp cd bb tl 3 (nI ts_1) H.size (⟨ts_1, te_2, cc_3, ra_4, rb_5, rc_6, rv_7, re_8, ya_9, by omega, by omega, by omega, by omega, e_35, e_36, ⟨k_16, c9_17, t_18, f_38, e_37, u_39⟩, ⟨k_22, c9_23, t_24, f_41, e_40, u_42⟩⟩ : RS ws_30 ty_31 rd krd tp ktp cd bb tl)) (cwV 2 hts gX4_readOne_X4_failAt rfl rfl rfl (by decide +kernel) ⟨Nat.le_of_ble_eq_true rfl, Nat.le_of_ble_eq_true rfl⟩) ⟨fun a U g mk q => by obtain ⟨q0, q1, qP, qK, qD, qS⟩ := q; exact ⟨q0, q1, qP, va_K.moved (u := U) (U := U.calling g mk a) (Vm.Alike.refl U.vm) qK, qD, SZ.same rfl rfl qS⟩, va_recv hK hP (ci := 4) (q0 := krd) rfl e_35, fun U hU hW => ⟨rfl, by rw [hU], by rw [hU]; exact hP, va_K.moved hW.alike hK, hD.weaken (fun _ _ _ _ => trivial), hsz9.go hS hW hU hFc⟩⟩ rfl rfl hl.1 rfl (lv_room (Nat.le_of_ble_eq_true rfl)) dX4_readOne_46 ⟨Nat.le_of_ble_eq_true rfl, Nat.le_of_ble_eq_true rfl⟩) hS (fun q _ h => hFc q h) hFc (fun r_105 u t H1 locs ht hvm w_106 hB hz1 hk1 hS => ?_)
    obtain ⟨ws_107, ty_108, hm_109, ht_111, hP1, hK1, hD1, hx_110⟩ := hB
    rw [ht] at hP1
    have hK := va_K.moved hvm.symm hK1
    have hD := hD1.weaken (fun _ _ _ h => hFc _ h)
    generalize H1 = H at hP1 hS ⊢
    have hP := hP1
    obtain ⟨g_113, e_112, h_114⟩ := hm_109.obj e_35
    obtain ⟨z_115, z_116, z_117, z_118, z_119, z_120, rfl⟩ := smX4 h_114
    obtain ⟨g_122, e_121, h_123⟩ := hm_109.obj e_36
    obtain ⟨z_124, z_125, z_126, z_127, rfl⟩ := smX6 h_123
    obtain ⟨f_129, e_128⟩ := hm_109.arrI e_37
    have u_130 := ht_111 _ _ u_39
    obtain ⟨f_132, e_131⟩ := hm_109.arrI e_40
    have u_133 := ht_111 _ _ u_42
    have hsm := hsm.tr (hm_109.mono (by decide))
    have htx := htx.tr ht_111
    obtain ⟨ts_134, te_135, cc_136, ra_137, rb_138, rc_139, rv_140, re_141, ya_142, h1_143, h2_144, h3_145, h4_146, er_147, et_148, ⟨k_149, c9_150, t_151, f_152, e_153, u_154⟩, ⟨k_155, c9_156, t_157, f_158, e_159, u_160⟩⟩ := id hx_110
    subst w_106
    exact W.zret (v := 0) hx hb hr rfl (fun t ht hW => ⟨⟨0, (), rfl, Or.inl rfl, ws_107, ty_108, hsm, htx, by rw [ht]; exact hP, va_K.moved hW.alike hK, hD, (⟨ts_134, te_135, cc_136, ra_137, rb_138, rc_139, rv_140, re_141, ya_142, by omega, by omega, by omega, by omega, er_147, et_148, ⟨k_149, c9_150, t_151, f_152, e_153, u_154⟩, ⟨k_155, c9_156, t_157, f_158, e_159, u_160⟩⟩ : RS ws_107 ty_108 rd krd tp ktp cd bb tl)⟩, hS.F ht⟩) hS.2.2 dX4_readOne_49
  refine lv_istore_n (lv' := [(2, .int 1), (0, .ref rd), (1, .int 6)]) hx hb dX4_readOne_9 rfl hl (by decide) rfl (fun ls hl => ?_)
  refine lv_iload_n hx hb dX4_readOne_10 rfl (lv_at hl 0 rfl) ?_
  refine lv_if_ne (tgt := 31) hx hb dX4_readOne_11 (by decide) (fun c_161 => ?_) (fun c_161 => absurd c_161 (by decide))
  refine lv_iload_n hx hb dX4_readOne_31 rfl (lv_at hl 2 rfl) ?_
  refine lv_bipush (v := 6) hx hb dX4_readOne_32 (by decide) ?_
  refine lv_icmp_lt (tgt := 50) hx hb dX4_readOne_34 (by decide) (fun c_162 => absurd c_162 (by decide)) (fun c_162 => ?_)
  refine lv_aload_n hx hb dX4_readOne_37 rfl (lv_at hl 1 rfl) ?_
  refine lv_iconst (v := 3) hx hb dX4_readOne_38 (by decide) ?_
  refine lv_aload_n hx hb dX4_readOne_39 rfl (lv_at hl 1 rfl) ?_
  refine va_get (D := D) (ci := 4) (v := .ref tp) (C := RX4) (T := TX4) (N := 8) hx hb hts hin4 hown hK hP krd e_35 rfl 0 (by decide) (hts (.fieldLink RX4 12 "HoneyHouse$RuleReader" "tape" "LHoneyHouse$Tape;") (List.mem_of_getElem? (i := 1) rfl)) (fun _ h9 => h9) rfl dX4_readOne_40 ?_
  refine va_get (D := D) (ci := 6) (v := .int (nI ts_1)) (C := RX6) (T := TX6) (N := 5) hx hb hts hin6 hown hK hP ktp e_36 rfl 2 (by decide) (hts (.fieldLink RX4 73 "HoneyHouse$Tape" "start" "I") (List.mem_of_getElem? (i := 2) rfl)) (fun _ h9 => h9) rfl dX4_readOne_43 ?_
  have hFc := free_all hD hS hA
  refine va_calli (va_runV (As := [.int 3, .int (nI ts_1)]) (rest := []) ⟨hx, hb, hml, hown, hts⟩ (r_failAt l D ws_30 ty_31 adK adV fo rd krd tp ktp cd bb tl 3 (nI ts_1) H.size (⟨ts_1, te_2, cc_3, ra_4, rb_5, rc_6, rv_7, re_8, ya_9, by omega, by omega, by omega, by omega, e_35, e_36, ⟨k_16, c9_17, t_18, f_38, e_37, u_39⟩, ⟨k_22, c9_23, t_24, f_41, e_40, u_42⟩⟩ : RS ws_30 ty_31 rd krd tp ktp cd bb tl)) (cwV 2 hts gX4_readOne_X4_failAt rfl rfl rfl (by decide +kernel) ⟨Nat.le_of_ble_eq_true rfl, Nat.le_of_ble_eq_true rfl⟩) ⟨fun a U g mk q => by obtain ⟨q0, q1, qP, qK, qD, qS⟩ := q; exact ⟨q0, q1, qP, va_K.moved (u := U) (U := U.calling g mk a) (Vm.Alike.refl U.vm) qK, qD, SZ.same rfl rfl qS⟩, va_recv hK hP (ci := 4) (q0 := krd) rfl e_35, fun U hU hW => ⟨rfl, by rw [hU], by rw [hU]; exact hP, va_K.moved hW.alike hK, hD.weaken (fun _ _ _ _ => trivial), hsz9.go hS hW hU hFc⟩⟩ rfl rfl hl.1 rfl (lv_room (Nat.le_of_ble_eq_true rfl)) dX4_readOne_46 ⟨Nat.le_of_ble_eq_true rfl, Nat.le_of_ble_eq_true rfl⟩) hS (fun q _ h => hFc q h) hFc (fun r_163 u t H1 locs ht hvm w_164 hB hz1 hk1 hS => ?_)
  obtain ⟨ws_165, ty_166, hm_167, ht_169, hP1, hK1, hD1, hx_168⟩ := hB
  rw [ht] at hP1
  have hK := va_K.moved hvm.symm hK1
  have hD := hD1.weaken (fun _ _ _ h => hFc _ h)
  generalize H1 = H at hP1 hS ⊢
  have hP := hP1
  obtain ⟨g_171, e_170, h_172⟩ := hm_167.obj e_35
  obtain ⟨z_173, z_174, z_175, z_176, z_177, z_178, rfl⟩ := smX4 h_172
  obtain ⟨g_180, e_179, h_181⟩ := hm_167.obj e_36
  obtain ⟨z_182, z_183, z_184, z_185, rfl⟩ := smX6 h_181
  obtain ⟨f_187, e_186⟩ := hm_167.arrI e_37
  have u_188 := ht_169 _ _ u_39
  obtain ⟨f_190, e_189⟩ := hm_167.arrI e_40
  have u_191 := ht_169 _ _ u_42
  have hsm := hsm.tr (hm_167.mono (by decide))
  have htx := htx.tr ht_169
  obtain ⟨ts_192, te_193, cc_194, ra_195, rb_196, rc_197, rv_198, re_199, ya_200, h1_201, h2_202, h3_203, h4_204, er_205, et_206, ⟨k_207, c9_208, t_209, f_210, e_211, u_212⟩, ⟨k_213, c9_214, t_215, f_216, e_217, u_218⟩⟩ := id hx_168
  subst w_164
  exact W.zret (v := 0) hx hb hr rfl (fun t ht hW => ⟨⟨0, (), rfl, Or.inl rfl, ws_165, ty_166, hsm, htx, by rw [ht]; exact hP, va_K.moved hW.alike hK, hD, (⟨ts_192, te_193, cc_194, ra_195, rb_196, rc_197, rv_198, re_199, ya_200, by omega, by omega, by omega, by omega, er_205, et_206, ⟨k_207, c9_208, t_209, f_210, e_211, u_212⟩, ⟨k_213, c9_214, t_215, f_216, e_217, u_218⟩⟩ : RS ws_165 ty_166 rd krd tp ktp cd bb tl)⟩, hS.F ht⟩) hS.2.2 dX4_readOne_49
set_option maxHeartbeats 4000000 in
set_option maxRecDepth 100000 in
theorem r_readEither6 (l : Launch) (D : va_G) (ws : va_W) (tys : List (ClassId × FieldType)) (adK adV : Nat → Nat) (fo : Option Nat) (rd krd tp ktp cd bb tl : Nat)  (sz : Nat) (R0 : RS ws tys rd krd tp ktp cd bb tl)  : Met l yX4_readEither wsX4_readEither ({ frames := 8, cells := 0, slots := 0, locals := 172 }) (va_Pc [.ref rd, .int 6] (fun U => U.heap.size = sz ∧ va_P D vwCl ws U.heap ∧ va_K D vwCl tys U ∧ va_D (fun _ => True) ws ∧ SZ adK adV fo (va_A ws sz) U U.heap)) (va_Qi (fun (r : Int32) (_ : Unit) => r = 0 ∨ r = 1) (fun (_ : Unit) (t : State) => ∃ (ws' : va_W) (tys' : List (ClassId × FieldType)), sm [4, 6] ws ws' ∧ tyx tys tys' ∧ va_P D vwCl ws' t.heap ∧ va_K D vwCl tys' t ∧ va_D (va_A ws sz) ws' ∧ RS ws' tys' rd krd tp ktp cd bb tl) (va_A ws sz)) 0 0 (va_A ws sz) := by
  refine Met.ofW (cc := cX4_readEither) (maxL := 6) (ret := (some .boolean)) (by decide) rfl ?_
  intro p e s m args below meth c s₁ B hml hv
  obtain ⟨rfl, hsz, hP, hK, hD0, hsz9⟩ := hv
  have hx := B.exec
  have hb := B.bytes
  have hr := B.returns
  have hts := atoms_spec (ws := wsX4_readEither) B.pre
  have hown : s.vm.findClass RX4 = some m.cls := findClass_of_methodNamed B.named
  have hlocks := B.notSynchronized
  subst hsz
  have hD := hD0.self (sz := s.heap.size)
  generalize hAe : va_A ws s.heap.size = A at hD hsz9 ⊢
  have hA : ∀ q : Nat, s.heap.size ≤ q → A q := fun q h => by rw [← hAe]; exact Or.inr h
  have hS : va_S A s.heap s.heap [] := va_S.rf
  have hsm : sm [4, 6] ws ws := sm.rf ws
  have htx : tyx tys tys := tyx.rf tys
  have hin4 : ∀ w ∈ u_ws RX4 TX4 8, w ∈ wsX4_readEither := (fun _ h9 => List.mem_cons_of_mem _ (List.mem_append_left _ ((List.mem_append_right _ h9))))
  have hl := lv_entry ([.ref rd, .int 6]) (n := 6) (Nat.le_of_ble_eq_true rfl)
  rw [lg_entry_eq]
  generalize (lg_sl ([.ref rd, .int 6]) ++ List.replicate (6 - (lg_sl ([.ref rd, .int 6])).length) Slot.unset).toArray = ls at hl ⊢
  have hl : lv_has ls 6 [(0, .ref rd), (1, .int 6)] := hl
  obtain ⟨ts_1, te_2, cc_3, ra_4, rb_5, rc_6, rv_7, re_8, ya_9, h1_10, h2_11, h3_12, h4_13, er_14, et_15, ⟨k_16, c9_17, t_18, f_19, e_20, u_21⟩, ⟨k_22, c9_23, t_24, f_25, e_26, u_27⟩⟩ := id R0
  refine lv_aload_n hx hb dX4_readEither_0 rfl (lv_at hl 0 rfl) ?_
  refine lv_iload_n hx hb dX4_readEither_1 rfl (lv_at hl 1 rfl) ?_
  have hFc := free_all hD hS hA
  refine va_calli (va_runV (As := [.int 6]) (rest := []) ⟨hx, hb, hml, hown, hts⟩ (r_readOne6 l D ws tys adK adV fo rd krd tp ktp cd bb tl  s.heap.size (⟨ts_1, te_2, cc_3, ra_4, rb_5, rc_6, rv_7, re_8, ya_9, by omega, by omega, by omega, by omega, er_14, et_15, ⟨k_16, c9_17, t_18, f_19, e_20, u_21⟩, ⟨k_22, c9_23, t_24, f_25, e_26, u_27⟩⟩ : RS ws tys rd krd tp ktp cd bb tl)) (cwV 1 hts gX4_readEither_X4_readOne rfl rfl rfl (by decide +kernel) ⟨Nat.le_of_ble_eq_true rfl, Nat.le_of_ble_eq_true rfl⟩) ⟨fun a U g mk q => by obtain ⟨q0, q1, qP, qK, qD, qS⟩ := q; exact ⟨q0, q1, qP, va_K.moved (u := U) (U := U.calling g mk a) (Vm.Alike.refl U.vm) qK, qD, SZ.same rfl rfl qS⟩, va_recv hK hP (ci := 4) (q0 := krd) rfl er_14, fun U hU hW => ⟨rfl, by rw [hU], by rw [hU]; exact hP, va_K.moved hW.alike hK, hD.weaken (fun _ _ _ _ => trivial), hsz9.go hS hW hU hFc⟩⟩ rfl rfl hl.1 rfl (lv_room (Nat.le_of_ble_eq_true rfl)) dX4_readEither_2 ⟨Nat.le_of_ble_eq_true rfl, Nat.le_of_ble_eq_true rfl⟩) hS (fun q _ h => hFc q h) hFc (fun r_28 u t H1 locs ht hvm w_29 hB hz1 hk1 hS => ?_)
  obtain ⟨ws_30, ty_31, hm_32, ht_34, hP1, hK1, hD1, hx_33⟩ := hB
  rw [ht] at hP1
  have hK := va_K.moved hvm.symm hK1
  have hD := hD1.weaken (fun _ _ _ h => hFc _ h)
  generalize H1 = H at hP1 hS ⊢
  have hP := hP1
  obtain ⟨g_36, e_35, h_37⟩ := hm_32.obj er_14
  obtain ⟨z_38, z_39, z_40, z_41, z_42, z_43, rfl⟩ := smX4 h_37
  obtain ⟨g_45, e_44, h_46⟩ := hm_32.obj et_15
  obtain ⟨z_47, z_48, z_49, z_50, rfl⟩ := smX6 h_46
  obtain ⟨f_52, e_51⟩ := hm_32.arrI e_20
  have u_53 := ht_34 _ _ u_21
  obtain ⟨f_55, e_54⟩ := hm_32.arrI e_26
  have u_56 := ht_34 _ _ u_27
  have hsm := hsm.tr (hm_32.mono (by decide))
  have htx := htx.tr ht_34
  obtain ⟨ts_57, te_58, cc_59, ra_60, rb_61, rc_62, rv_63, re_64, ya_65, h1_66, h2_67, h3_68, h4_69, er_70, et_71, ⟨k_72, c9_73, t_74, f_75, e_76, u_77⟩, ⟨k_78, c9_79, t_80, f_81, e_82, u_83⟩⟩ := id hx_33
  refine lv_istore_n (lv' := [(2, .int r_28), (0, .ref rd), (1, .int 6)]) hx hb dX4_readEither_5 rfl hl (by decide) rfl (fun ls hl => ?_)
  refine lv_iconst (v := 0) hx hb dX4_readEither_6 (by decide) ?_
  refine lv_istore_n (lv' := [(3, .int 0), (2, .int r_28), (0, .ref rd), (1, .int 6)]) hx hb dX4_readEither_7 rfl hl (by decide) rfl (fun ls hl => ?_)
  refine lv_iconst (v := 0) hx hb dX4_readEither_8 (by decide) ?_
  refine lv_istore (lv' := [(4, .int 0), (3, .int 0), (2, .int r_28), (0, .ref rd), (1, .int 6)]) hx hb dX4_readEither_9 hl (by decide) rfl (fun ls hl => ?_)
  refine lp_V (nL := 6) (σ := Nat × Int32 × Int32) (lv := fun x9 => [(4, .int (nI x9.1)), (2, .int x9.2.1), (3, .int x9.2.2), (1, .int 6), (0, .ref rd)]) (μ := fun x9 => 400 - x9.1) (J := fun x9 ws9 => sm [4, 6] ws_30 ws9 ∧ (RS ws9 ty_31 rd krd tp ktp cd bb tl) ∧ (x9.1 ≤ 400) ∧ (x9.2.1 = 0 ∨ x9.2.1 = 1) ∧ (x9.2.2 = 0 ∨ x9.2.2 = 1)) (fun x9 ws_91 H locs ls hj hP hD hS hl ih_84 => ?_) (0, r_28, 0) ws_30 _ _ ls ⟨sm.rf _, (⟨ts_57, te_58, cc_59, ra_60, rb_61, rc_62, rv_63, re_64, ya_65, by omega, by omega, by omega, by omega, er_70, et_71, ⟨k_72, c9_73, t_74, f_75, e_76, u_77⟩, ⟨k_78, c9_79, t_80, f_81, e_82, u_83⟩⟩ : RS ws_30 ty_31 rd krd tp ktp cd bb tl), (show 0 ≤ 400 from by omega), (show r_28 = 0 ∨ r_28 = 1 from w_29), (show 0 = 0 ∨ 0 = 1 from Or.inl rfl)⟩ hP hD hS (lv_sub hl [0, 2, 1, 4, 3] rfl)
  obtain ⟨i_85, x_86, y_87⟩ := x9
  have hj : sm [4, 6] ws_30 ws_91 ∧ (RS ws_91 ty_31 rd krd tp ktp cd bb tl) ∧ (i_85 ≤ 400) ∧ (x_86 = 0 ∨ x_86 = 1) ∧ (y_87 = 0 ∨ y_87 = 1) := hj
  obtain ⟨hm_92, hR_94, hi_88, hbx_89, hby_90⟩ := hj
  obtain ⟨g_96, e_95, h_97⟩ := hm_92.obj er_70
  obtain ⟨z_98, z_99, z_100, z_101, z_102, z_103, rfl⟩ := smX4 h_97
  obtain ⟨g_105, e_104, h_106⟩ := hm_92.obj et_71
  obtain ⟨z_107, z_108, z_109, z_110, rfl⟩ := smX6 h_106
  obtain ⟨f_112, e_111⟩ := hm_92.arrI e_76
  obtain ⟨f_114, e_113⟩ := hm_92.arrI e_82
  have hsm := hsm.tr (hm_92.mono (by decide))
  obtain ⟨ts_115, te_116, cc_117, ra_118, rb_119, rc_120, rv_121, re_122, ya_123, h1_124, h2_125, h3_126, h4_127, er_128, et_129, ⟨k_130, c9_131, t_132, f_133, e_134, u_135⟩, ⟨k_136, c9_137, t_138, f_139, e_140, u_141⟩⟩ := id hR_94
  have hlp_93 := hm_92
  have hl : lv_has ls 6 [(4, .int (nI i_85)), (2, .int x_86), (3, .int y_87), (1, .int 6), (0, .ref rd)] := hl
  refine lv_iload hx hb dX4_readEither_11 (lv_at hl 0 rfl) ?_
  refine lv_sipush (v := 400) hx hb dX4_readEither_13 (by decide) ?_
  refine lv_icmp_ge (tgt := 101) hx hb dX4_readEither_16 (by decide) (fun c_142 => ?_) (fun c_142 => ?_)
  · have d_143 := n_le (a := 400) (b := i_85) (by omega) (by omega) c_142
    refine lv_iload_n hx hb dX4_readEither_101 rfl (lv_at hl 2 rfl) ?_
    refine lv_if_eq (tgt := 111) hx hb dX4_readEither_102 (by decide) (fun c_144 => ?_) (fun c_144 => ?_)
    · refine lv_iload_n hx hb dX4_readEither_111 rfl (lv_at hl 1 rfl) ?_
      exact W.zret (v := x_86) hx hb hr (by rcases hbx_89 with h9 | h9 <;> rw [h9] <;> rfl) (fun t ht hW => ⟨⟨x_86, (), rfl, hbx_89, ws_91, ty_31, hsm, htx, by rw [ht]; exact hP, va_K.moved hW.alike hK, hD, (⟨ts_115, te_116, cc_117, ra_118, rb_119, rc_120, rv_121, re_122, ya_123, by omega, by omega, by omega, by omega, er_128, et_129, ⟨k_130, c9_131, t_132, f_133, e_134, u_135⟩, ⟨k_136, c9_137, t_138, f_139, e_140, u_141⟩⟩ : RS ws_91 ty_31 rd krd tp ktp cd bb tl)⟩, hS.F ht⟩) hS.2.2 dX4_readEither_112
    refine lv_aload_n hx hb dX4_readEither_105 rfl (lv_at hl 4 rfl) ?_
    refine lv_bipush (v := (-3)) hx hb dX4_readEither_106 (by decide) ?_
    have hFc := free_all hD hS hA
    refine va_callv (va_runV (As := [.int (-3)]) (rest := []) ⟨hx, hb, hml, hown, hts⟩ (r_addCode l D ws_91 ty_31 adK adV fo rd krd tp ktp cd bb tl (-3) H.size (⟨ts_115, te_116, cc_117, ra_118, rb_119, rc_120, rv_121, re_122, ya_123, by omega, by omega, by omega, by omega, er_128, et_129, ⟨k_130, c9_131, t_132, f_133, e_134, u_135⟩, ⟨k_136, c9_137, t_138, f_139, e_140, u_141⟩⟩ : RS ws_91 ty_31 rd krd tp ktp cd bb tl)) (cwV 1 hts gX4_readEither_X4_addCode rfl rfl rfl (by decide +kernel) ⟨Nat.le_of_ble_eq_true rfl, Nat.le_of_ble_eq_true rfl⟩) ⟨fun a U g mk q => by obtain ⟨q0, q1, qP, qK, qD, qS⟩ := q; exact ⟨q0, q1, qP, va_K.moved (u := U) (U := U.calling g mk a) (Vm.Alike.refl U.vm) qK, qD, SZ.same rfl rfl qS⟩, va_recv hK hP (ci := 4) (q0 := krd) rfl er_128, fun U hU hW => ⟨rfl, by rw [hU], by rw [hU]; exact hP, va_K.moved hW.alike hK, hD.weaken (fun _ _ _ _ => trivial), hsz9.go hS hW hU hFc⟩⟩ rfl rfl hl.1 rfl (lv_room (Nat.le_of_ble_eq_true rfl)) dX4_readEither_108 ⟨Nat.le_of_ble_eq_true rfl, Nat.le_of_ble_eq_true rfl⟩) hS (fun q _ h => hFc q h) hFc (fun u t H1 locs ht hvm w_146 hB hz1 hk1 hS => ?_)
    obtain ⟨ws_147, ty_148, hm_149, ht_151, hP1, hK1, hD1, hx_150⟩ := hB
    rw [ht] at hP1
    have hK := va_K.moved hvm.symm hK1
    have hD := hD1.weaken (fun _ _ _ h => hFc _ h)
    generalize H1 = H at hP1 hS ⊢
    have hP := hP1
    obtain ⟨g_153, e_152, h_154⟩ := hm_149.obj er_128
    obtain ⟨z_155, z_156, z_157, z_158, z_159, z_160, rfl⟩ := smX4 h_154
    obtain ⟨g_162, e_161, h_163⟩ := hm_149.obj et_129
    obtain ⟨z_164, z_165, z_166, z_167, rfl⟩ := smX6 h_163
    obtain ⟨f_169, e_168⟩ := hm_149.arrI e_134
    have u_170 := ht_151 _ _ u_135
    obtain ⟨f_172, e_171⟩ := hm_149.arrI e_140
    have u_173 := ht_151 _ _ u_141
    have hsm := hsm.tr (hm_149.mono (by decide))
    have hlp_93 := hlp_93.tr (hm_149.mono (by decide))
    have htx := htx.tr ht_151
    obtain ⟨ts_174, te_175, cc_176, ra_177, rb_178, rc_179, rv_180, re_181, ya_182, h1_183, h2_184, h3_185, h4_186, er_187, et_188, ⟨k_189, c9_190, t_191, f_192, e_193, u_194⟩, ⟨k_195, c9_196, t_197, f_198, e_199, u_200⟩⟩ := id hx_150
    refine lv_iload_n hx hb dX4_readEither_111 rfl (lv_at hl 1 rfl) ?_
    exact W.zret (v := x_86) hx hb hr (by rcases hbx_89 with h9 | h9 <;> rw [h9] <;> rfl) (fun t ht hW => ⟨⟨x_86, (), rfl, hbx_89, ws_147, ty_148, hsm, htx, by rw [ht]; exact hP, va_K.moved hW.alike hK, hD, (⟨ts_174, te_175, cc_176, ra_177, rb_178, rc_179, rv_180, re_181, ya_182, by omega, by omega, by omega, by omega, er_187, et_188, ⟨k_189, c9_190, t_191, f_192, e_193, u_194⟩, ⟨k_195, c9_196, t_197, f_198, e_199, u_200⟩⟩ : RS ws_147 ty_148 rd krd tp ktp cd bb tl)⟩, hS.F ht⟩) hS.2.2 dX4_readEither_112
  have d_201 := n_nle (a := 400) (b := i_85) (by omega) (by omega) c_142
  refine lv_iload_n hx hb dX4_readEither_19 rfl (lv_at hl 1 rfl) ?_
  refine lv_if_eq (tgt := 101) hx hb dX4_readEither_20 (by decide) (fun c_202 => ?_) (fun c_202 => ?_)
  · refine lv_iload_n hx hb dX4_readEither_101 rfl (lv_at hl 2 rfl) ?_
    refine lv_if_eq (tgt := 111) hx hb dX4_readEither_102 (by decide) (fun c_203 => ?_) (fun c_203 => ?_)
    · refine lv_iload_n hx hb dX4_readEither_111 rfl (lv_at hl 1 rfl) ?_
      exact W.zret (v := x_86) hx hb hr (by rcases hbx_89 with h9 | h9 <;> rw [h9] <;> rfl) (fun t ht hW => ⟨⟨x_86, (), rfl, hbx_89, ws_91, ty_31, hsm, htx, by rw [ht]; exact hP, va_K.moved hW.alike hK, hD, (⟨ts_115, te_116, cc_117, ra_118, rb_119, rc_120, rv_121, re_122, ya_123, by omega, by omega, by omega, by omega, er_128, et_129, ⟨k_130, c9_131, t_132, f_133, e_134, u_135⟩, ⟨k_136, c9_137, t_138, f_139, e_140, u_141⟩⟩ : RS ws_91 ty_31 rd krd tp ktp cd bb tl)⟩, hS.F ht⟩) hS.2.2 dX4_readEither_112
    refine lv_aload_n hx hb dX4_readEither_105 rfl (lv_at hl 4 rfl) ?_
    refine lv_bipush (v := (-3)) hx hb dX4_readEither_106 (by decide) ?_
    have hFc := free_all hD hS hA
    refine va_callv (va_runV (As := [.int (-3)]) (rest := []) ⟨hx, hb, hml, hown, hts⟩ (r_addCode l D ws_91 ty_31 adK adV fo rd krd tp ktp cd bb tl (-3) H.size (⟨ts_115, te_116, cc_117, ra_118, rb_119, rc_120, rv_121, re_122, ya_123, by omega, by omega, by omega, by omega, er_128, et_129, ⟨k_130, c9_131, t_132, f_133, e_134, u_135⟩, ⟨k_136, c9_137, t_138, f_139, e_140, u_141⟩⟩ : RS ws_91 ty_31 rd krd tp ktp cd bb tl)) (cwV 1 hts gX4_readEither_X4_addCode rfl rfl rfl (by decide +kernel) ⟨Nat.le_of_ble_eq_true rfl, Nat.le_of_ble_eq_true rfl⟩) ⟨fun a U g mk q => by obtain ⟨q0, q1, qP, qK, qD, qS⟩ := q; exact ⟨q0, q1, qP, va_K.moved (u := U) (U := U.calling g mk a) (Vm.Alike.refl U.vm) qK, qD, SZ.same rfl rfl qS⟩, va_recv hK hP (ci := 4) (q0 := krd) rfl er_128, fun U hU hW => ⟨rfl, by rw [hU], by rw [hU]; exact hP, va_K.moved hW.alike hK, hD.weaken (fun _ _ _ _ => trivial), hsz9.go hS hW hU hFc⟩⟩ rfl rfl hl.1 rfl (lv_room (Nat.le_of_ble_eq_true rfl)) dX4_readEither_108 ⟨Nat.le_of_ble_eq_true rfl, Nat.le_of_ble_eq_true rfl⟩) hS (fun q _ h => hFc q h) hFc (fun u t H1 locs ht hvm w_205 hB hz1 hk1 hS => ?_)
    obtain ⟨ws_206, ty_207, hm_208, ht_210, hP1, hK1, hD1, hx_209⟩ := hB
    rw [ht] at hP1
    have hK := va_K.moved hvm.symm hK1
    have hD := hD1.weaken (fun _ _ _ h => hFc _ h)
    generalize H1 = H at hP1 hS ⊢
    have hP := hP1
    obtain ⟨g_212, e_211, h_213⟩ := hm_208.obj er_128
    obtain ⟨z_214, z_215, z_216, z_217, z_218, z_219, rfl⟩ := smX4 h_213
    obtain ⟨g_221, e_220, h_222⟩ := hm_208.obj et_129
    obtain ⟨z_223, z_224, z_225, z_226, rfl⟩ := smX6 h_222
    obtain ⟨f_228, e_227⟩ := hm_208.arrI e_134
    have u_229 := ht_210 _ _ u_135
    obtain ⟨f_231, e_230⟩ := hm_208.arrI e_140
    have u_232 := ht_210 _ _ u_141
    have hsm := hsm.tr (hm_208.mono (by decide))
    have hlp_93 := hlp_93.tr (hm_208.mono (by decide))
    have htx := htx.tr ht_210
    obtain ⟨ts_233, te_234, cc_235, ra_236, rb_237, rc_238, rv_239, re_240, ya_241, h1_242, h2_243, h3_244, h4_245, er_246, et_247, ⟨k_248, c9_249, t_250, f_251, e_252, u_253⟩, ⟨k_254, c9_255, t_256, f_257, e_258, u_259⟩⟩ := id hx_209
    refine lv_iload_n hx hb dX4_readEither_111 rfl (lv_at hl 1 rfl) ?_
    exact W.zret (v := x_86) hx hb hr (by rcases hbx_89 with h9 | h9 <;> rw [h9] <;> rfl) (fun t ht hW => ⟨⟨x_86, (), rfl, hbx_89, ws_206, ty_207, hsm, htx, by rw [ht]; exact hP, va_K.moved hW.alike hK, hD, (⟨ts_233, te_234, cc_235, ra_236, rb_237, rc_238, rv_239, re_240, ya_241, by omega, by omega, by omega, by omega, er_246, et_247, ⟨k_248, c9_249, t_250, f_251, e_252, u_253⟩, ⟨k_254, c9_255, t_256, f_257, e_258, u_259⟩⟩ : RS ws_206 ty_207 rd krd tp ktp cd bb tl)⟩, hS.F ht⟩) hS.2.2 dX4_readEither_112
  refine lv_aload_n hx hb dX4_readEither_23 rfl (lv_at hl 4 rfl) ?_
  have hFc := free_all hD hS hA
  refine va_calli (va_runV (As := []) (rest := []) ⟨hx, hb, hml, hown, hts⟩ (r_isAndOr l D ws_91 ty_31 adK adV fo rd krd tp ktp cd bb tl  H.size (⟨ts_115, te_116, cc_117, ra_118, rb_119, rc_120, rv_121, re_122, ya_123, by omega, by omega, by omega, by omega, er_128, et_129, ⟨k_130, c9_131, t_132, f_133, e_134, u_135⟩, ⟨k_136, c9_137, t_138, f_139, e_140, u_141⟩⟩ : RS ws_91 ty_31 rd krd tp ktp cd bb tl)) (cwV 0 hts gX4_readEither_X4_isAndOr rfl rfl rfl (by decide +kernel) ⟨Nat.le_of_ble_eq_true rfl, Nat.le_of_ble_eq_true rfl⟩) ⟨fun a U g mk q => by obtain ⟨q0, q1, qP, qK, qD, qS⟩ := q; exact ⟨q0, q1, qP, va_K.moved (u := U) (U := U.calling g mk a) (Vm.Alike.refl U.vm) qK, qD, SZ.same rfl rfl qS⟩, va_recv hK hP (ci := 4) (q0 := krd) rfl er_128, fun U hU hW => ⟨rfl, by rw [hU], by rw [hU]; exact hP, va_K.moved hW.alike hK, hD.weaken (fun _ _ _ _ => trivial), hsz9.go hS hW hU hFc⟩⟩ rfl rfl hl.1 rfl (lv_room (Nat.le_of_ble_eq_true rfl)) dX4_readEither_24 ⟨Nat.le_of_ble_eq_true rfl, Nat.le_of_ble_eq_true rfl⟩) hS (fun q _ h => hFc q h) hFc (fun r_260 u t H1 locs ht hvm w_261 hB hz1 hk1 hS => ?_)
  obtain ⟨ws_262, ty_263, hm_264, ht_266, hP1, hK1, hD1, hx_265⟩ := hB
  rw [ht] at hP1
  have hK := va_K.moved hvm.symm hK1
  have hD := hD1.weaken (fun _ _ _ h => hFc _ h)
  generalize H1 = H at hP1 hS ⊢
  have hP := hP1
  have e_267 := hm_264.objK er_128 (by decide)
  have e_268 := hm_264.objK et_129 (by decide)
  obtain ⟨f_270, e_269⟩ := hm_264.arrI e_134
  have u_271 := ht_266 _ _ u_135
  obtain ⟨f_273, e_272⟩ := hm_264.arrI e_140
  have u_274 := ht_266 _ _ u_141
  have hsm := hsm.tr (hm_264.mono (by decide))
  have hlp_93 := hlp_93.tr (hm_264.mono (by decide))
  have htx := htx.tr ht_266
  rcases w_261 with rfl | rfl
  · refine lv_if_eq (tgt := 101) hx hb dX4_readEither_27 (by decide) (fun c_275 => ?_) (fun c_275 => absurd (by decide) c_275)
    refine lv_iload_n hx hb dX4_readEither_101 rfl (lv_at hl 2 rfl) ?_
    refine lv_if_eq (tgt := 111) hx hb dX4_readEither_102 (by decide) (fun c_276 => ?_) (fun c_276 => ?_)
    · refine lv_iload_n hx hb dX4_readEither_111 rfl (lv_at hl 1 rfl) ?_
      exact W.zret (v := x_86) hx hb hr (by rcases hbx_89 with h9 | h9 <;> rw [h9] <;> rfl) (fun t ht hW => ⟨⟨x_86, (), rfl, hbx_89, ws_262, ty_263, hsm, htx, by rw [ht]; exact hP, va_K.moved hW.alike hK, hD, (⟨ts_115, te_116, cc_117, ra_118, rb_119, rc_120, rv_121, re_122, ya_123, by omega, by omega, by omega, by omega, e_267, e_268, ⟨k_130, c9_131, t_132, f_270, e_269, u_271⟩, ⟨k_136, c9_137, t_138, f_273, e_272, u_274⟩⟩ : RS ws_262 ty_263 rd krd tp ktp cd bb tl)⟩, hS.F ht⟩) hS.2.2 dX4_readEither_112
    refine lv_aload_n hx hb dX4_readEither_105 rfl (lv_at hl 4 rfl) ?_
    refine lv_bipush (v := (-3)) hx hb dX4_readEither_106 (by decide) ?_
    have hFc := free_all hD hS hA
    refine va_callv (va_runV (As := [.int (-3)]) (rest := []) ⟨hx, hb, hml, hown, hts⟩ (r_addCode l D ws_262 ty_263 adK adV fo rd krd tp ktp cd bb tl (-3) H.size (⟨ts_115, te_116, cc_117, ra_118, rb_119, rc_120, rv_121, re_122, ya_123, by omega, by omega, by omega, by omega, e_267, e_268, ⟨k_130, c9_131, t_132, f_270, e_269, u_271⟩, ⟨k_136, c9_137, t_138, f_273, e_272, u_274⟩⟩ : RS ws_262 ty_263 rd krd tp ktp cd bb tl)) (cwV 1 hts gX4_readEither_X4_addCode rfl rfl rfl (by decide +kernel) ⟨Nat.le_of_ble_eq_true rfl, Nat.le_of_ble_eq_true rfl⟩) ⟨fun a U g mk q => by obtain ⟨q0, q1, qP, qK, qD, qS⟩ := q; exact ⟨q0, q1, qP, va_K.moved (u := U) (U := U.calling g mk a) (Vm.Alike.refl U.vm) qK, qD, SZ.same rfl rfl qS⟩, va_recv hK hP (ci := 4) (q0 := krd) rfl e_267, fun U hU hW => ⟨rfl, by rw [hU], by rw [hU]; exact hP, va_K.moved hW.alike hK, hD.weaken (fun _ _ _ _ => trivial), hsz9.go hS hW hU hFc⟩⟩ rfl rfl hl.1 rfl (lv_room (Nat.le_of_ble_eq_true rfl)) dX4_readEither_108 ⟨Nat.le_of_ble_eq_true rfl, Nat.le_of_ble_eq_true rfl⟩) hS (fun q _ h => hFc q h) hFc (fun u t H1 locs ht hvm w_278 hB hz1 hk1 hS => ?_)
    obtain ⟨ws_279, ty_280, hm_281, ht_283, hP1, hK1, hD1, hx_282⟩ := hB
    rw [ht] at hP1
    have hK := va_K.moved hvm.symm hK1
    have hD := hD1.weaken (fun _ _ _ h => hFc _ h)
    generalize H1 = H at hP1 hS ⊢
    have hP := hP1
    obtain ⟨g_285, e_284, h_286⟩ := hm_281.obj e_267
    obtain ⟨z_287, z_288, z_289, z_290, z_291, z_292, rfl⟩ := smX4 h_286
    obtain ⟨g_294, e_293, h_295⟩ := hm_281.obj e_268
    obtain ⟨z_296, z_297, z_298, z_299, rfl⟩ := smX6 h_295
    obtain ⟨f_301, e_300⟩ := hm_281.arrI e_269
    have u_302 := ht_283 _ _ u_271
    obtain ⟨f_304, e_303⟩ := hm_281.arrI e_272
    have u_305 := ht_283 _ _ u_274
    have hsm := hsm.tr (hm_281.mono (by decide))
    have hlp_93 := hlp_93.tr (hm_281.mono (by decide))
    have htx := htx.tr ht_283
    obtain ⟨ts_306, te_307, cc_308, ra_309, rb_310, rc_311, rv_312, re_313, ya_314, h1_315, h2_316, h3_317, h4_318, er_319, et_320, ⟨k_321, c9_322, t_323, f_324, e_325, u_326⟩, ⟨k_327, c9_328, t_329, f_330, e_331, u_332⟩⟩ := id hx_282
    refine lv_iload_n hx hb dX4_readEither_111 rfl (lv_at hl 1 rfl) ?_
    exact W.zret (v := x_86) hx hb hr (by rcases hbx_89 with h9 | h9 <;> rw [h9] <;> rfl) (fun t ht hW => ⟨⟨x_86, (), rfl, hbx_89, ws_279, ty_280, hsm, htx, by rw [ht]; exact hP, va_K.moved hW.alike hK, hD, (⟨ts_306, te_307, cc_308, ra_309, rb_310, rc_311, rv_312, re_313, ya_314, by omega, by omega, by omega, by omega, er_319, et_320, ⟨k_321, c9_322, t_323, f_324, e_325, u_326⟩, ⟨k_327, c9_328, t_329, f_330, e_331, u_332⟩⟩ : RS ws_279 ty_280 rd krd tp ktp cd bb tl)⟩, hS.F ht⟩) hS.2.2 dX4_readEither_112
  refine lv_if_eq (tgt := 101) hx hb dX4_readEither_27 (by decide) (fun c_333 => absurd c_333 (by decide)) (fun c_333 => ?_)
  refine lv_aload_n hx hb dX4_readEither_30 rfl (lv_at hl 4 rfl) ?_
  refine va_get (D := D) (ci := 4) (v := .ref tp) (C := RX4) (T := TX4) (N := 8) hx hb hts hin4 hown hK hP krd e_267 rfl 0 (by decide) (hts (.fieldLink RX4 12 "HoneyHouse$RuleReader" "tape" "LHoneyHouse$Tape;") (List.mem_of_getElem? (i := 1) rfl)) (fun _ h9 => h9) rfl dX4_readEither_31 ?_
  refine va_ldcS hx hb hown hsz9.2.2.2.2.2.1 dX4_readEither_34 ?_
  have hFc := free_all hD hS hA
  refine va_calli (va_runV (As := [.ref (adK 2)]) (rest := []) ⟨hx, hb, hml, hown, hts⟩ (a_isWord l D ws_262 ty_263 adK adV fo 2 tp ktp tl ya_123 (nI ts_115) (nI te_116) bb k_136 c9_137 t_138 f_273 H.size (by decide) e_268 e_272 u_274) (cwV 1 hts gX4_readEither_X6_isWord rfl rfl rfl (by decide +kernel) ⟨Nat.le_of_ble_eq_true rfl, Nat.le_of_ble_eq_true rfl⟩) ⟨fun a U g mk q => by obtain ⟨q0, q1, qP, qK, qD, qS⟩ := q; exact ⟨q0, q1, qP, va_K.moved (u := U) (U := U.calling g mk a) (Vm.Alike.refl U.vm) qK, qD, SZ.same rfl rfl qS⟩, va_recv hK hP (ci := 6) (q0 := ktp) rfl e_268, fun U hU hW => ⟨rfl, by rw [hU], by rw [hU]; exact hP, va_K.moved hW.alike hK, hD.weaken (fun _ _ _ _ => trivial), hsz9.go hS hW hU hFc⟩⟩ rfl rfl hl.1 rfl (lv_room (Nat.le_of_ble_eq_true rfl)) dX4_readEither_36 ⟨Nat.le_of_ble_eq_true rfl, Nat.le_of_ble_eq_true rfl⟩) hS (fun q _ h => hFc q h) hFc (fun r_334 u t H1 locs ht hvm w_335 hB hz1 hk1 hS => ?_)
  obtain ⟨ws_336, ty_337, hm_338, ht_340, hP1, hK1, hD1, hx_339⟩ := hB
  rw [ht] at hP1
  have hK := va_K.moved hvm.symm hK1
  have hD := hD1.weaken (fun _ _ _ h => hFc _ h)
  generalize H1 = H at hP1 hS ⊢
  have hP := hP1
  have e_341 := hm_338.objK e_267 (by decide)
  have e_342 := hm_338.objK e_268 (by decide)
  obtain ⟨f_344, e_343⟩ := hm_338.arrI e_269
  have u_345 := ht_340 _ _ u_271
  obtain ⟨f_347, e_346⟩ := hm_338.arrI e_272
  have u_348 := ht_340 _ _ u_274
  have hsm := hsm.tr (hm_338.mono (by decide))
  have hlp_93 := hlp_93.tr (hm_338.mono (by decide))
  have htx := htx.tr ht_340
  rcases w_335 with rfl | rfl
  · refine lv_istore (lv' := [(5, .int 0), (4, .int (nI i_85)), (2, .int x_86), (3, .int y_87), (1, .int 6), (0, .ref rd)]) hx hb dX4_readEither_39 hl (by decide) rfl (fun ls hl => ?_)
    refine lv_iload hx hb dX4_readEither_41 (lv_at hl 0 rfl) ?_
    refine lv_if_ne (tgt := 56) hx hb dX4_readEither_43 (by decide) (fun c_349 => absurd (by decide) c_349) (fun c_349 => ?_)
    refine lv_iload_n hx hb dX4_readEither_46 rfl (lv_at hl 3 rfl) ?_
    refine lv_if_eq (tgt := 56) hx hb dX4_readEither_47 (by decide) (fun c_350 => ?_) (fun c_350 => ?_)
    · refine lv_iload_n hx hb dX4_readEither_56 rfl (lv_at hl 3 rfl) ?_
      refine lv_if_ne (tgt := 65) hx hb dX4_readEither_57 (by decide) (fun c_351 => ?_) (fun c_351 => ?_)
      · refine lv_iconst (v := 1) hx hb dX4_readEither_65 (by decide) ?_
        refine lv_goto (tgt := 70) hx hb dX4_readEither_66 (by decide) ?_
        refine lv_istore_n (lv' := [(3, .int 1), (5, .int 0), (4, .int (nI i_85)), (2, .int x_86), (1, .int 6), (0, .ref rd)]) hx hb dX4_readEither_70 rfl hl (by decide) rfl (fun ls hl => ?_)
        refine lv_aload_n hx hb dX4_readEither_71 rfl (lv_at hl 5 rfl) ?_
        refine va_get (D := D) (ci := 4) (v := .ref tp) (C := RX4) (T := TX4) (N := 8) hx hb hts hin4 hown hK hP krd e_341 rfl 0 (by decide) (hts (.fieldLink RX4 12 "HoneyHouse$RuleReader" "tape" "LHoneyHouse$Tape;") (List.mem_of_getElem? (i := 1) rfl)) (fun _ h9 => h9) rfl dX4_readEither_72 ?_
        have hFc := free_all hD hS hA
        refine va_callv (va_runV (As := []) (rest := []) ⟨hx, hb, hml, hown, hts⟩ (a_advance l D ws_336 ty_337 tp ktp tl te_116 ya_123 (nI ts_115) bb k_136 c9_137 t_138 f_347 H.size (by omega) (by omega) e_342 e_346 u_348) (cwV 0 hts gX4_readEither_X6_advance rfl rfl rfl (by decide +kernel) ⟨Nat.le_of_ble_eq_true rfl, Nat.le_of_ble_eq_true rfl⟩) ⟨fun a U g mk q => by obtain ⟨q0, q1, qP, qK, qD⟩ := q; exact ⟨q0, q1, qP, va_K.moved (u := U) (U := U.calling g mk a) (Vm.Alike.refl U.vm) qK, qD⟩, va_recv hK hP (ci := 6) (q0 := ktp) rfl e_342, fun U hU hW => ⟨rfl, by rw [hU], by rw [hU]; exact hP, va_K.moved hW.alike hK, hD.weaken (fun _ _ _ _ => trivial)⟩⟩ rfl rfl hl.1 rfl (lv_room (Nat.le_of_ble_eq_true rfl)) dX4_readEither_75 ⟨Nat.le_of_ble_eq_true rfl, Nat.le_of_ble_eq_true rfl⟩) hS (fun q _ h => hFc q h) hFc (fun u t H1 locs ht hvm w_353 hB hz1 hk1 hS => ?_)
        obtain ⟨ws_354, ty_355, hm_356, ht_358, hP1, hK1, hD1, hx_357⟩ := hB
        rw [ht] at hP1
        have hK := va_K.moved hvm.symm hK1
        have hD := hD1.weaken (fun _ _ _ h => hFc _ h)
        generalize H1 = H at hP1 hS ⊢
        have hP := hP1
        have e_359 := hm_356.objK e_341 (by decide)
        obtain ⟨g_361, e_360, h_362⟩ := hm_356.obj e_342
        obtain ⟨z_363, z_364, z_365, z_366, rfl⟩ := smX6 h_362
        obtain ⟨f_368, e_367⟩ := hm_356.arrI e_343
        have u_369 := ht_358 _ _ u_345
        obtain ⟨f_371, e_370⟩ := hm_356.arrI e_346
        have u_372 := ht_358 _ _ u_348
        have hsm := hsm.tr (hm_356.mono (by decide))
        have hlp_93 := hlp_93.tr (hm_356.mono (by decide))
        have htx := htx.tr ht_358
        obtain ⟨k_373, s_374, e_375, h_376, h_377, h_378, e_379⟩ := hx_357
        refine lv_aload_n hx hb dX4_readEither_78 rfl (lv_at hl 5 rfl) ?_
        refine lv_iload_n hx hb dX4_readEither_79 rfl (lv_at hl 4 rfl) ?_
        have hFc := free_all hD hS hA
        refine va_calli (va_runV (As := [.int 6]) (rest := []) ⟨hx, hb, hml, hown, hts⟩ (r_readOne6 l D ws_354 ty_355 adK adV fo rd krd tp ktp cd bb tl  H.size (⟨s_374, e_375, cc_117, ra_118, rb_119, rc_120, rv_121, re_122, nI k_373, by omega, by omega, by omega, by omega, e_359, e_379, ⟨k_130, c9_131, t_132, f_368, e_367, u_369⟩, ⟨k_136, c9_137, t_138, f_371, e_370, u_372⟩⟩ : RS ws_354 ty_355 rd krd tp ktp cd bb tl)) (cwV 1 hts gX4_readEither_X4_readOne rfl rfl rfl (by decide +kernel) ⟨Nat.le_of_ble_eq_true rfl, Nat.le_of_ble_eq_true rfl⟩) ⟨fun a U g mk q => by obtain ⟨q0, q1, qP, qK, qD, qS⟩ := q; exact ⟨q0, q1, qP, va_K.moved (u := U) (U := U.calling g mk a) (Vm.Alike.refl U.vm) qK, qD, SZ.same rfl rfl qS⟩, va_recv hK hP (ci := 4) (q0 := krd) rfl e_359, fun U hU hW => ⟨rfl, by rw [hU], by rw [hU]; exact hP, va_K.moved hW.alike hK, hD.weaken (fun _ _ _ _ => trivial), hsz9.go hS hW hU hFc⟩⟩ rfl rfl hl.1 rfl (lv_room (Nat.le_of_ble_eq_true rfl)) dX4_readEither_80 ⟨Nat.le_of_ble_eq_true rfl, Nat.le_of_ble_eq_true rfl⟩) hS (fun q _ h => hFc q h) hFc (fun r_380 u t H1 locs ht hvm w_381 hB hz1 hk1 hS => ?_)
        obtain ⟨ws_382, ty_383, hm_384, ht_386, hP1, hK1, hD1, hx_385⟩ := hB
        rw [ht] at hP1
        have hK := va_K.moved hvm.symm hK1
        have hD := hD1.weaken (fun _ _ _ h => hFc _ h)
        generalize H1 = H at hP1 hS ⊢
        have hP := hP1
        obtain ⟨g_388, e_387, h_389⟩ := hm_384.obj e_359
        obtain ⟨z_390, z_391, z_392, z_393, z_394, z_395, rfl⟩ := smX4 h_389
        obtain ⟨g_397, e_396, h_398⟩ := hm_384.obj e_379
        obtain ⟨z_399, z_400, z_401, z_402, rfl⟩ := smX6 h_398
        obtain ⟨f_404, e_403⟩ := hm_384.arrI e_367
        have u_405 := ht_386 _ _ u_369
        obtain ⟨f_407, e_406⟩ := hm_384.arrI e_370
        have u_408 := ht_386 _ _ u_372
        have hsm := hsm.tr (hm_384.mono (by decide))
        have hlp_93 := hlp_93.tr (hm_384.mono (by decide))
        have htx := htx.tr ht_386
        obtain ⟨ts_409, te_410, cc_411, ra_412, rb_413, rc_414, rv_415, re_416, ya_417, h1_418, h2_419, h3_420, h4_421, er_422, et_423, ⟨k_424, c9_425, t_426, f_427, e_428, u_429⟩, ⟨k_430, c9_431, t_432, f_433, e_434, u_435⟩⟩ := id hx_385
        refine lv_istore_n (lv' := [(2, .int r_380), (3, .int 1), (5, .int 0), (4, .int (nI i_85)), (1, .int 6), (0, .ref rd)]) hx hb dX4_readEither_83 rfl hl (by decide) rfl (fun ls hl => ?_)
        refine lv_iload hx hb dX4_readEither_84 (lv_at hl 2 rfl) ?_
        refine lv_if_eq (tgt := 95) hx hb dX4_readEither_86 (by decide) (fun c_436 => ?_) (fun c_436 => absurd (by decide) c_436)
        refine lv_iinc (v := nI (i_85 + 1)) (lv' := [(4, .int (nI (i_85 + 1))), (2, .int r_380), (3, .int 1), (5, .int 0), (1, .int 6), (0, .ref rd)]) hx hb dX4_readEither_95 hl (k := 3) rfl (nI_add i_85 1) (by decide) rfl (fun ls hl => ?_)
        refine lv_goto (tgt := 11) hx hb dX4_readEither_98 (by decide) ?_
        exact ih_84 (i_85 + 1, r_380, 1) ws_382 _ _ ls (by show 400 - (i_85 + 1) < 400 - i_85; omega) ⟨hlp_93, (⟨ts_409, te_410, cc_411, ra_412, rb_413, rc_414, rv_415, re_416, ya_417, by omega, by omega, by omega, by omega, er_422, et_423, ⟨k_424, c9_425, t_426, f_427, e_428, u_429⟩, ⟨k_430, c9_431, t_432, f_433, e_434, u_435⟩⟩ : RS ws_382 ty_383 rd krd tp ktp cd bb tl), (show (i_85 + 1) ≤ 400 from by omega), (show r_380 = 0 ∨ r_380 = 1 from w_381), (show 1 = 0 ∨ 1 = 1 from Or.inr rfl)⟩ hP hD hS (lv_sub hl [0, 1, 2, 4, 5] rfl)
      refine lv_iload hx hb dX4_readEither_60 (lv_at hl 0 rfl) ?_
      refine lv_if_ne (tgt := 69) hx hb dX4_readEither_62 (by decide) (fun c_437 => absurd (by decide) c_437) (fun c_437 => ?_)
      refine lv_iconst (v := 1) hx hb dX4_readEither_65 (by decide) ?_
      refine lv_goto (tgt := 70) hx hb dX4_readEither_66 (by decide) ?_
      refine lv_istore_n (lv' := [(3, .int 1), (5, .int 0), (4, .int (nI i_85)), (2, .int x_86), (1, .int 6), (0, .ref rd)]) hx hb dX4_readEither_70 rfl hl (by decide) rfl (fun ls hl => ?_)
      refine lv_aload_n hx hb dX4_readEither_71 rfl (lv_at hl 5 rfl) ?_
      refine va_get (D := D) (ci := 4) (v := .ref tp) (C := RX4) (T := TX4) (N := 8) hx hb hts hin4 hown hK hP krd e_341 rfl 0 (by decide) (hts (.fieldLink RX4 12 "HoneyHouse$RuleReader" "tape" "LHoneyHouse$Tape;") (List.mem_of_getElem? (i := 1) rfl)) (fun _ h9 => h9) rfl dX4_readEither_72 ?_
      have hFc := free_all hD hS hA
      refine va_callv (va_runV (As := []) (rest := []) ⟨hx, hb, hml, hown, hts⟩ (a_advance l D ws_336 ty_337 tp ktp tl te_116 ya_123 (nI ts_115) bb k_136 c9_137 t_138 f_347 H.size (by omega) (by omega) e_342 e_346 u_348) (cwV 0 hts gX4_readEither_X6_advance rfl rfl rfl (by decide +kernel) ⟨Nat.le_of_ble_eq_true rfl, Nat.le_of_ble_eq_true rfl⟩) ⟨fun a U g mk q => by obtain ⟨q0, q1, qP, qK, qD⟩ := q; exact ⟨q0, q1, qP, va_K.moved (u := U) (U := U.calling g mk a) (Vm.Alike.refl U.vm) qK, qD⟩, va_recv hK hP (ci := 6) (q0 := ktp) rfl e_342, fun U hU hW => ⟨rfl, by rw [hU], by rw [hU]; exact hP, va_K.moved hW.alike hK, hD.weaken (fun _ _ _ _ => trivial)⟩⟩ rfl rfl hl.1 rfl (lv_room (Nat.le_of_ble_eq_true rfl)) dX4_readEither_75 ⟨Nat.le_of_ble_eq_true rfl, Nat.le_of_ble_eq_true rfl⟩) hS (fun q _ h => hFc q h) hFc (fun u t H1 locs ht hvm w_439 hB hz1 hk1 hS => ?_)
      obtain ⟨ws_440, ty_441, hm_442, ht_444, hP1, hK1, hD1, hx_443⟩ := hB
      rw [ht] at hP1
      have hK := va_K.moved hvm.symm hK1
      have hD := hD1.weaken (fun _ _ _ h => hFc _ h)
      generalize H1 = H at hP1 hS ⊢
      have hP := hP1
      have e_445 := hm_442.objK e_341 (by decide)
      obtain ⟨g_447, e_446, h_448⟩ := hm_442.obj e_342
      obtain ⟨z_449, z_450, z_451, z_452, rfl⟩ := smX6 h_448
      obtain ⟨f_454, e_453⟩ := hm_442.arrI e_343
      have u_455 := ht_444 _ _ u_345
      obtain ⟨f_457, e_456⟩ := hm_442.arrI e_346
      have u_458 := ht_444 _ _ u_348
      have hsm := hsm.tr (hm_442.mono (by decide))
      have hlp_93 := hlp_93.tr (hm_442.mono (by decide))
      have htx := htx.tr ht_444
      obtain ⟨k_459, s_460, e_461, h_462, h_463, h_464, e_465⟩ := hx_443
      refine lv_aload_n hx hb dX4_readEither_78 rfl (lv_at hl 5 rfl) ?_
      refine lv_iload_n hx hb dX4_readEither_79 rfl (lv_at hl 4 rfl) ?_
      have hFc := free_all hD hS hA
      refine va_calli (va_runV (As := [.int 6]) (rest := []) ⟨hx, hb, hml, hown, hts⟩ (r_readOne6 l D ws_440 ty_441 adK adV fo rd krd tp ktp cd bb tl  H.size (⟨s_460, e_461, cc_117, ra_118, rb_119, rc_120, rv_121, re_122, nI k_459, by omega, by omega, by omega, by omega, e_445, e_465, ⟨k_130, c9_131, t_132, f_454, e_453, u_455⟩, ⟨k_136, c9_137, t_138, f_457, e_456, u_458⟩⟩ : RS ws_440 ty_441 rd krd tp ktp cd bb tl)) (cwV 1 hts gX4_readEither_X4_readOne rfl rfl rfl (by decide +kernel) ⟨Nat.le_of_ble_eq_true rfl, Nat.le_of_ble_eq_true rfl⟩) ⟨fun a U g mk q => by obtain ⟨q0, q1, qP, qK, qD, qS⟩ := q; exact ⟨q0, q1, qP, va_K.moved (u := U) (U := U.calling g mk a) (Vm.Alike.refl U.vm) qK, qD, SZ.same rfl rfl qS⟩, va_recv hK hP (ci := 4) (q0 := krd) rfl e_445, fun U hU hW => ⟨rfl, by rw [hU], by rw [hU]; exact hP, va_K.moved hW.alike hK, hD.weaken (fun _ _ _ _ => trivial), hsz9.go hS hW hU hFc⟩⟩ rfl rfl hl.1 rfl (lv_room (Nat.le_of_ble_eq_true rfl)) dX4_readEither_80 ⟨Nat.le_of_ble_eq_true rfl, Nat.le_of_ble_eq_true rfl⟩) hS (fun q _ h => hFc q h) hFc (fun r_466 u t H1 locs ht hvm w_467 hB hz1 hk1 hS => ?_)
      obtain ⟨ws_468, ty_469, hm_470, ht_472, hP1, hK1, hD1, hx_471⟩ := hB
      rw [ht] at hP1
      have hK := va_K.moved hvm.symm hK1
      have hD := hD1.weaken (fun _ _ _ h => hFc _ h)
      generalize H1 = H at hP1 hS ⊢
      have hP := hP1
      obtain ⟨g_474, e_473, h_475⟩ := hm_470.obj e_445
      obtain ⟨z_476, z_477, z_478, z_479, z_480, z_481, rfl⟩ := smX4 h_475
      obtain ⟨g_483, e_482, h_484⟩ := hm_470.obj e_465
      obtain ⟨z_485, z_486, z_487, z_488, rfl⟩ := smX6 h_484
      obtain ⟨f_490, e_489⟩ := hm_470.arrI e_453
      have u_491 := ht_472 _ _ u_455
      obtain ⟨f_493, e_492⟩ := hm_470.arrI e_456
      have u_494 := ht_472 _ _ u_458
      have hsm := hsm.tr (hm_470.mono (by decide))
      have hlp_93 := hlp_93.tr (hm_470.mono (by decide))
      have htx := htx.tr ht_472
      obtain ⟨ts_495, te_496, cc_497, ra_498, rb_499, rc_500, rv_501, re_502, ya_503, h1_504, h2_505, h3_506, h4_507, er_508, et_509, ⟨k_510, c9_511, t_512, f_513, e_514, u_515⟩, ⟨k_516, c9_517, t_518, f_519, e_520, u_521⟩⟩ := id hx_471
      refine lv_istore_n (lv' := [(2, .int r_466), (3, .int 1), (5, .int 0), (4, .int (nI i_85)), (1, .int 6), (0, .ref rd)]) hx hb dX4_readEither_83 rfl hl (by decide) rfl (fun ls hl => ?_)
      refine lv_iload hx hb dX4_readEither_84 (lv_at hl 2 rfl) ?_
      refine lv_if_eq (tgt := 95) hx hb dX4_readEither_86 (by decide) (fun c_522 => ?_) (fun c_522 => absurd (by decide) c_522)
      refine lv_iinc (v := nI (i_85 + 1)) (lv' := [(4, .int (nI (i_85 + 1))), (2, .int r_466), (3, .int 1), (5, .int 0), (1, .int 6), (0, .ref rd)]) hx hb dX4_readEither_95 hl (k := 3) rfl (nI_add i_85 1) (by decide) rfl (fun ls hl => ?_)
      refine lv_goto (tgt := 11) hx hb dX4_readEither_98 (by decide) ?_
      exact ih_84 (i_85 + 1, r_466, 1) ws_468 _ _ ls (by show 400 - (i_85 + 1) < 400 - i_85; omega) ⟨hlp_93, (⟨ts_495, te_496, cc_497, ra_498, rb_499, rc_500, rv_501, re_502, ya_503, by omega, by omega, by omega, by omega, er_508, et_509, ⟨k_510, c9_511, t_512, f_513, e_514, u_515⟩, ⟨k_516, c9_517, t_518, f_519, e_520, u_521⟩⟩ : RS ws_468 ty_469 rd krd tp ktp cd bb tl), (show (i_85 + 1) ≤ 400 from by omega), (show r_466 = 0 ∨ r_466 = 1 from w_467), (show 1 = 0 ∨ 1 = 1 from Or.inr rfl)⟩ hP hD hS (lv_sub hl [0, 1, 2, 4, 5] rfl)
    refine lv_aload_n hx hb dX4_readEither_50 rfl (lv_at hl 5 rfl) ?_
    refine lv_bipush (v := (-3)) hx hb dX4_readEither_51 (by decide) ?_
    have hFc := free_all hD hS hA
    refine va_callv (va_runV (As := [.int (-3)]) (rest := []) ⟨hx, hb, hml, hown, hts⟩ (r_addCode l D ws_336 ty_337 adK adV fo rd krd tp ktp cd bb tl (-3) H.size (⟨ts_115, te_116, cc_117, ra_118, rb_119, rc_120, rv_121, re_122, ya_123, by omega, by omega, by omega, by omega, e_341, e_342, ⟨k_130, c9_131, t_132, f_344, e_343, u_345⟩, ⟨k_136, c9_137, t_138, f_347, e_346, u_348⟩⟩ : RS ws_336 ty_337 rd krd tp ktp cd bb tl)) (cwV 1 hts gX4_readEither_X4_addCode rfl rfl rfl (by decide +kernel) ⟨Nat.le_of_ble_eq_true rfl, Nat.le_of_ble_eq_true rfl⟩) ⟨fun a U g mk q => by obtain ⟨q0, q1, qP, qK, qD, qS⟩ := q; exact ⟨q0, q1, qP, va_K.moved (u := U) (U := U.calling g mk a) (Vm.Alike.refl U.vm) qK, qD, SZ.same rfl rfl qS⟩, va_recv hK hP (ci := 4) (q0 := krd) rfl e_341, fun U hU hW => ⟨rfl, by rw [hU], by rw [hU]; exact hP, va_K.moved hW.alike hK, hD.weaken (fun _ _ _ _ => trivial), hsz9.go hS hW hU hFc⟩⟩ rfl rfl hl.1 rfl (lv_room (Nat.le_of_ble_eq_true rfl)) dX4_readEither_53 ⟨Nat.le_of_ble_eq_true rfl, Nat.le_of_ble_eq_true rfl⟩) hS (fun q _ h => hFc q h) hFc (fun u t H1 locs ht hvm w_524 hB hz1 hk1 hS => ?_)
    obtain ⟨ws_525, ty_526, hm_527, ht_529, hP1, hK1, hD1, hx_528⟩ := hB
    rw [ht] at hP1
    have hK := va_K.moved hvm.symm hK1
    have hD := hD1.weaken (fun _ _ _ h => hFc _ h)
    generalize H1 = H at hP1 hS ⊢
    have hP := hP1
    obtain ⟨g_531, e_530, h_532⟩ := hm_527.obj e_341
    obtain ⟨z_533, z_534, z_535, z_536, z_537, z_538, rfl⟩ := smX4 h_532
    obtain ⟨g_540, e_539, h_541⟩ := hm_527.obj e_342
    obtain ⟨z_542, z_543, z_544, z_545, rfl⟩ := smX6 h_541
    obtain ⟨f_547, e_546⟩ := hm_527.arrI e_343
    have u_548 := ht_529 _ _ u_345
    obtain ⟨f_550, e_549⟩ := hm_527.arrI e_346
    have u_551 := ht_529 _ _ u_348
    have hsm := hsm.tr (hm_527.mono (by decide))
    have hlp_93 := hlp_93.tr (hm_527.mono (by decide))
    have htx := htx.tr ht_529
    obtain ⟨ts_552, te_553, cc_554, ra_555, rb_556, rc_557, rv_558, re_559, ya_560, h1_561, h2_562, h3_563, h4_564, er_565, et_566, ⟨k_567, c9_568, t_569, f_570, e_571, u_572⟩, ⟨k_573, c9_574, t_575, f_576, e_577, u_578⟩⟩ := id hx_528
    refine lv_iload_n hx hb dX4_readEither_56 rfl (lv_at hl 3 rfl) ?_
    refine lv_if_ne (tgt := 65) hx hb dX4_readEither_57 (by decide) (fun c_579 => ?_) (fun c_579 => ?_)
    · refine lv_iconst (v := 1) hx hb dX4_readEither_65 (by decide) ?_
      refine lv_goto (tgt := 70) hx hb dX4_readEither_66 (by decide) ?_
      refine lv_istore_n (lv' := [(3, .int 1), (5, .int 0), (4, .int (nI i_85)), (2, .int x_86), (1, .int 6), (0, .ref rd)]) hx hb dX4_readEither_70 rfl hl (by decide) rfl (fun ls hl => ?_)
      refine lv_aload_n hx hb dX4_readEither_71 rfl (lv_at hl 5 rfl) ?_
      refine va_get (D := D) (ci := 4) (v := .ref tp) (C := RX4) (T := TX4) (N := 8) hx hb hts hin4 hown hK hP krd er_565 rfl 0 (by decide) (hts (.fieldLink RX4 12 "HoneyHouse$RuleReader" "tape" "LHoneyHouse$Tape;") (List.mem_of_getElem? (i := 1) rfl)) (fun _ h9 => h9) rfl dX4_readEither_72 ?_
      have hFc := free_all hD hS hA
      refine va_callv (va_runV (As := []) (rest := []) ⟨hx, hb, hml, hown, hts⟩ (a_advance l D ws_525 ty_526 tp ktp tl te_553 ya_560 (nI ts_552) bb k_573 c9_574 t_575 f_576 H.size (by omega) (by omega) et_566 e_577 u_578) (cwV 0 hts gX4_readEither_X6_advance rfl rfl rfl (by decide +kernel) ⟨Nat.le_of_ble_eq_true rfl, Nat.le_of_ble_eq_true rfl⟩) ⟨fun a U g mk q => by obtain ⟨q0, q1, qP, qK, qD⟩ := q; exact ⟨q0, q1, qP, va_K.moved (u := U) (U := U.calling g mk a) (Vm.Alike.refl U.vm) qK, qD⟩, va_recv hK hP (ci := 6) (q0 := ktp) rfl et_566, fun U hU hW => ⟨rfl, by rw [hU], by rw [hU]; exact hP, va_K.moved hW.alike hK, hD.weaken (fun _ _ _ _ => trivial)⟩⟩ rfl rfl hl.1 rfl (lv_room (Nat.le_of_ble_eq_true rfl)) dX4_readEither_75 ⟨Nat.le_of_ble_eq_true rfl, Nat.le_of_ble_eq_true rfl⟩) hS (fun q _ h => hFc q h) hFc (fun u t H1 locs ht hvm w_581 hB hz1 hk1 hS => ?_)
      obtain ⟨ws_582, ty_583, hm_584, ht_586, hP1, hK1, hD1, hx_585⟩ := hB
      rw [ht] at hP1
      have hK := va_K.moved hvm.symm hK1
      have hD := hD1.weaken (fun _ _ _ h => hFc _ h)
      generalize H1 = H at hP1 hS ⊢
      have hP := hP1
      have e_587 := hm_584.objK er_565 (by decide)
      obtain ⟨g_589, e_588, h_590⟩ := hm_584.obj et_566
      obtain ⟨z_591, z_592, z_593, z_594, rfl⟩ := smX6 h_590
      obtain ⟨f_596, e_595⟩ := hm_584.arrI e_571
      have u_597 := ht_586 _ _ u_572
      obtain ⟨f_599, e_598⟩ := hm_584.arrI e_577
      have u_600 := ht_586 _ _ u_578
      have hsm := hsm.tr (hm_584.mono (by decide))
      have hlp_93 := hlp_93.tr (hm_584.mono (by decide))
      have htx := htx.tr ht_586
      obtain ⟨k_601, s_602, e_603, h_604, h_605, h_606, e_607⟩ := hx_585
      refine lv_aload_n hx hb dX4_readEither_78 rfl (lv_at hl 5 rfl) ?_
      refine lv_iload_n hx hb dX4_readEither_79 rfl (lv_at hl 4 rfl) ?_
      have hFc := free_all hD hS hA
      refine va_calli (va_runV (As := [.int 6]) (rest := []) ⟨hx, hb, hml, hown, hts⟩ (r_readOne6 l D ws_582 ty_583 adK adV fo rd krd tp ktp cd bb tl  H.size (⟨s_602, e_603, cc_554, ra_555, rb_556, rc_557, rv_558, re_559, nI k_601, by omega, by omega, by omega, by omega, e_587, e_607, ⟨k_567, c9_568, t_569, f_596, e_595, u_597⟩, ⟨k_573, c9_574, t_575, f_599, e_598, u_600⟩⟩ : RS ws_582 ty_583 rd krd tp ktp cd bb tl)) (cwV 1 hts gX4_readEither_X4_readOne rfl rfl rfl (by decide +kernel) ⟨Nat.le_of_ble_eq_true rfl, Nat.le_of_ble_eq_true rfl⟩) ⟨fun a U g mk q => by obtain ⟨q0, q1, qP, qK, qD, qS⟩ := q; exact ⟨q0, q1, qP, va_K.moved (u := U) (U := U.calling g mk a) (Vm.Alike.refl U.vm) qK, qD, SZ.same rfl rfl qS⟩, va_recv hK hP (ci := 4) (q0 := krd) rfl e_587, fun U hU hW => ⟨rfl, by rw [hU], by rw [hU]; exact hP, va_K.moved hW.alike hK, hD.weaken (fun _ _ _ _ => trivial), hsz9.go hS hW hU hFc⟩⟩ rfl rfl hl.1 rfl (lv_room (Nat.le_of_ble_eq_true rfl)) dX4_readEither_80 ⟨Nat.le_of_ble_eq_true rfl, Nat.le_of_ble_eq_true rfl⟩) hS (fun q _ h => hFc q h) hFc (fun r_608 u t H1 locs ht hvm w_609 hB hz1 hk1 hS => ?_)
      obtain ⟨ws_610, ty_611, hm_612, ht_614, hP1, hK1, hD1, hx_613⟩ := hB
      rw [ht] at hP1
      have hK := va_K.moved hvm.symm hK1
      have hD := hD1.weaken (fun _ _ _ h => hFc _ h)
      generalize H1 = H at hP1 hS ⊢
      have hP := hP1
      obtain ⟨g_616, e_615, h_617⟩ := hm_612.obj e_587
      obtain ⟨z_618, z_619, z_620, z_621, z_622, z_623, rfl⟩ := smX4 h_617
      obtain ⟨g_625, e_624, h_626⟩ := hm_612.obj e_607
      obtain ⟨z_627, z_628, z_629, z_630, rfl⟩ := smX6 h_626
      obtain ⟨f_632, e_631⟩ := hm_612.arrI e_595
      have u_633 := ht_614 _ _ u_597
      obtain ⟨f_635, e_634⟩ := hm_612.arrI e_598
      have u_636 := ht_614 _ _ u_600
      have hsm := hsm.tr (hm_612.mono (by decide))
      have hlp_93 := hlp_93.tr (hm_612.mono (by decide))
      have htx := htx.tr ht_614
      obtain ⟨ts_637, te_638, cc_639, ra_640, rb_641, rc_642, rv_643, re_644, ya_645, h1_646, h2_647, h3_648, h4_649, er_650, et_651, ⟨k_652, c9_653, t_654, f_655, e_656, u_657⟩, ⟨k_658, c9_659, t_660, f_661, e_662, u_663⟩⟩ := id hx_613
      refine lv_istore_n (lv' := [(2, .int r_608), (3, .int 1), (5, .int 0), (4, .int (nI i_85)), (1, .int 6), (0, .ref rd)]) hx hb dX4_readEither_83 rfl hl (by decide) rfl (fun ls hl => ?_)
      refine lv_iload hx hb dX4_readEither_84 (lv_at hl 2 rfl) ?_
      refine lv_if_eq (tgt := 95) hx hb dX4_readEither_86 (by decide) (fun c_664 => ?_) (fun c_664 => absurd (by decide) c_664)
      refine lv_iinc (v := nI (i_85 + 1)) (lv' := [(4, .int (nI (i_85 + 1))), (2, .int r_608), (3, .int 1), (5, .int 0), (1, .int 6), (0, .ref rd)]) hx hb dX4_readEither_95 hl (k := 3) rfl (nI_add i_85 1) (by decide) rfl (fun ls hl => ?_)
      refine lv_goto (tgt := 11) hx hb dX4_readEither_98 (by decide) ?_
      exact ih_84 (i_85 + 1, r_608, 1) ws_610 _ _ ls (by show 400 - (i_85 + 1) < 400 - i_85; omega) ⟨hlp_93, (⟨ts_637, te_638, cc_639, ra_640, rb_641, rc_642, rv_643, re_644, ya_645, by omega, by omega, by omega, by omega, er_650, et_651, ⟨k_652, c9_653, t_654, f_655, e_656, u_657⟩, ⟨k_658, c9_659, t_660, f_661, e_662, u_663⟩⟩ : RS ws_610 ty_611 rd krd tp ktp cd bb tl), (show (i_85 + 1) ≤ 400 from by omega), (show r_608 = 0 ∨ r_608 = 1 from w_609), (show 1 = 0 ∨ 1 = 1 from Or.inr rfl)⟩ hP hD hS (lv_sub hl [0, 1, 2, 4, 5] rfl)
    refine lv_iload hx hb dX4_readEither_60 (lv_at hl 0 rfl) ?_
    refine lv_if_ne (tgt := 69) hx hb dX4_readEither_62 (by decide) (fun c_665 => absurd (by decide) c_665) (fun c_665 => ?_)
    refine lv_iconst (v := 1) hx hb dX4_readEither_65 (by decide) ?_
    refine lv_goto (tgt := 70) hx hb dX4_readEither_66 (by decide) ?_
    refine lv_istore_n (lv' := [(3, .int 1), (5, .int 0), (4, .int (nI i_85)), (2, .int x_86), (1, .int 6), (0, .ref rd)]) hx hb dX4_readEither_70 rfl hl (by decide) rfl (fun ls hl => ?_)
    refine lv_aload_n hx hb dX4_readEither_71 rfl (lv_at hl 5 rfl) ?_
    refine va_get (D := D) (ci := 4) (v := .ref tp) (C := RX4) (T := TX4) (N := 8) hx hb hts hin4 hown hK hP krd er_565 rfl 0 (by decide) (hts (.fieldLink RX4 12 "HoneyHouse$RuleReader" "tape" "LHoneyHouse$Tape;") (List.mem_of_getElem? (i := 1) rfl)) (fun _ h9 => h9) rfl dX4_readEither_72 ?_
    have hFc := free_all hD hS hA
    refine va_callv (va_runV (As := []) (rest := []) ⟨hx, hb, hml, hown, hts⟩ (a_advance l D ws_525 ty_526 tp ktp tl te_553 ya_560 (nI ts_552) bb k_573 c9_574 t_575 f_576 H.size (by omega) (by omega) et_566 e_577 u_578) (cwV 0 hts gX4_readEither_X6_advance rfl rfl rfl (by decide +kernel) ⟨Nat.le_of_ble_eq_true rfl, Nat.le_of_ble_eq_true rfl⟩) ⟨fun a U g mk q => by obtain ⟨q0, q1, qP, qK, qD⟩ := q; exact ⟨q0, q1, qP, va_K.moved (u := U) (U := U.calling g mk a) (Vm.Alike.refl U.vm) qK, qD⟩, va_recv hK hP (ci := 6) (q0 := ktp) rfl et_566, fun U hU hW => ⟨rfl, by rw [hU], by rw [hU]; exact hP, va_K.moved hW.alike hK, hD.weaken (fun _ _ _ _ => trivial)⟩⟩ rfl rfl hl.1 rfl (lv_room (Nat.le_of_ble_eq_true rfl)) dX4_readEither_75 ⟨Nat.le_of_ble_eq_true rfl, Nat.le_of_ble_eq_true rfl⟩) hS (fun q _ h => hFc q h) hFc (fun u t H1 locs ht hvm w_667 hB hz1 hk1 hS => ?_)
    obtain ⟨ws_668, ty_669, hm_670, ht_672, hP1, hK1, hD1, hx_671⟩ := hB
    rw [ht] at hP1
    have hK := va_K.moved hvm.symm hK1
    have hD := hD1.weaken (fun _ _ _ h => hFc _ h)
    generalize H1 = H at hP1 hS ⊢
    have hP := hP1
    have e_673 := hm_670.objK er_565 (by decide)
    obtain ⟨g_675, e_674, h_676⟩ := hm_670.obj et_566
    obtain ⟨z_677, z_678, z_679, z_680, rfl⟩ := smX6 h_676
    obtain ⟨f_682, e_681⟩ := hm_670.arrI e_571
    have u_683 := ht_672 _ _ u_572
    obtain ⟨f_685, e_684⟩ := hm_670.arrI e_577
    have u_686 := ht_672 _ _ u_578
    have hsm := hsm.tr (hm_670.mono (by decide))
    have hlp_93 := hlp_93.tr (hm_670.mono (by decide))
    have htx := htx.tr ht_672
    obtain ⟨k_687, s_688, e_689, h_690, h_691, h_692, e_693⟩ := hx_671
    refine lv_aload_n hx hb dX4_readEither_78 rfl (lv_at hl 5 rfl) ?_
    refine lv_iload_n hx hb dX4_readEither_79 rfl (lv_at hl 4 rfl) ?_
    have hFc := free_all hD hS hA
    refine va_calli (va_runV (As := [.int 6]) (rest := []) ⟨hx, hb, hml, hown, hts⟩ (r_readOne6 l D ws_668 ty_669 adK adV fo rd krd tp ktp cd bb tl  H.size (⟨s_688, e_689, cc_554, ra_555, rb_556, rc_557, rv_558, re_559, nI k_687, by omega, by omega, by omega, by omega, e_673, e_693, ⟨k_567, c9_568, t_569, f_682, e_681, u_683⟩, ⟨k_573, c9_574, t_575, f_685, e_684, u_686⟩⟩ : RS ws_668 ty_669 rd krd tp ktp cd bb tl)) (cwV 1 hts gX4_readEither_X4_readOne rfl rfl rfl (by decide +kernel) ⟨Nat.le_of_ble_eq_true rfl, Nat.le_of_ble_eq_true rfl⟩) ⟨fun a U g mk q => by obtain ⟨q0, q1, qP, qK, qD, qS⟩ := q; exact ⟨q0, q1, qP, va_K.moved (u := U) (U := U.calling g mk a) (Vm.Alike.refl U.vm) qK, qD, SZ.same rfl rfl qS⟩, va_recv hK hP (ci := 4) (q0 := krd) rfl e_673, fun U hU hW => ⟨rfl, by rw [hU], by rw [hU]; exact hP, va_K.moved hW.alike hK, hD.weaken (fun _ _ _ _ => trivial), hsz9.go hS hW hU hFc⟩⟩ rfl rfl hl.1 rfl (lv_room (Nat.le_of_ble_eq_true rfl)) dX4_readEither_80 ⟨Nat.le_of_ble_eq_true rfl, Nat.le_of_ble_eq_true rfl⟩) hS (fun q _ h => hFc q h) hFc (fun r_694 u t H1 locs ht hvm w_695 hB hz1 hk1 hS => ?_)
    obtain ⟨ws_696, ty_697, hm_698, ht_700, hP1, hK1, hD1, hx_699⟩ := hB
    rw [ht] at hP1
    have hK := va_K.moved hvm.symm hK1
    have hD := hD1.weaken (fun _ _ _ h => hFc _ h)
    generalize H1 = H at hP1 hS ⊢
    have hP := hP1
    obtain ⟨g_702, e_701, h_703⟩ := hm_698.obj e_673
    obtain ⟨z_704, z_705, z_706, z_707, z_708, z_709, rfl⟩ := smX4 h_703
    obtain ⟨g_711, e_710, h_712⟩ := hm_698.obj e_693
    obtain ⟨z_713, z_714, z_715, z_716, rfl⟩ := smX6 h_712
    obtain ⟨f_718, e_717⟩ := hm_698.arrI e_681
    have u_719 := ht_700 _ _ u_683
    obtain ⟨f_721, e_720⟩ := hm_698.arrI e_684
    have u_722 := ht_700 _ _ u_686
    have hsm := hsm.tr (hm_698.mono (by decide))
    have hlp_93 := hlp_93.tr (hm_698.mono (by decide))
    have htx := htx.tr ht_700
    obtain ⟨ts_723, te_724, cc_725, ra_726, rb_727, rc_728, rv_729, re_730, ya_731, h1_732, h2_733, h3_734, h4_735, er_736, et_737, ⟨k_738, c9_739, t_740, f_741, e_742, u_743⟩, ⟨k_744, c9_745, t_746, f_747, e_748, u_749⟩⟩ := id hx_699
    refine lv_istore_n (lv' := [(2, .int r_694), (3, .int 1), (5, .int 0), (4, .int (nI i_85)), (1, .int 6), (0, .ref rd)]) hx hb dX4_readEither_83 rfl hl (by decide) rfl (fun ls hl => ?_)
    refine lv_iload hx hb dX4_readEither_84 (lv_at hl 2 rfl) ?_
    refine lv_if_eq (tgt := 95) hx hb dX4_readEither_86 (by decide) (fun c_750 => ?_) (fun c_750 => absurd (by decide) c_750)
    refine lv_iinc (v := nI (i_85 + 1)) (lv' := [(4, .int (nI (i_85 + 1))), (2, .int r_694), (3, .int 1), (5, .int 0), (1, .int 6), (0, .ref rd)]) hx hb dX4_readEither_95 hl (k := 3) rfl (nI_add i_85 1) (by decide) rfl (fun ls hl => ?_)
    refine lv_goto (tgt := 11) hx hb dX4_readEither_98 (by decide) ?_
    exact ih_84 (i_85 + 1, r_694, 1) ws_696 _ _ ls (by show 400 - (i_85 + 1) < 400 - i_85; omega) ⟨hlp_93, (⟨ts_723, te_724, cc_725, ra_726, rb_727, rc_728, rv_729, re_730, ya_731, by omega, by omega, by omega, by omega, er_736, et_737, ⟨k_738, c9_739, t_740, f_741, e_742, u_743⟩, ⟨k_744, c9_745, t_746, f_747, e_748, u_749⟩⟩ : RS ws_696 ty_697 rd krd tp ktp cd bb tl), (show (i_85 + 1) ≤ 400 from by omega), (show r_694 = 0 ∨ r_694 = 1 from w_695), (show 1 = 0 ∨ 1 = 1 from Or.inr rfl)⟩ hP hD hS (lv_sub hl [0, 1, 2, 4, 5] rfl)
  refine lv_istore (lv' := [(5, .int 1), (4, .int (nI i_85)), (2, .int x_86), (3, .int y_87), (1, .int 6), (0, .ref rd)]) hx hb dX4_readEither_39 hl (by decide) rfl (fun ls hl => ?_)
  refine lv_iload hx hb dX4_readEither_41 (lv_at hl 0 rfl) ?_
  refine lv_if_ne (tgt := 56) hx hb dX4_readEither_43 (by decide) (fun c_751 => ?_) (fun c_751 => absurd c_751 (by decide))
  refine lv_iload_n hx hb dX4_readEither_56 rfl (lv_at hl 3 rfl) ?_
  refine lv_if_ne (tgt := 65) hx hb dX4_readEither_57 (by decide) (fun c_752 => ?_) (fun c_752 => ?_)
  · refine lv_iconst (v := 1) hx hb dX4_readEither_65 (by decide) ?_
    refine lv_goto (tgt := 70) hx hb dX4_readEither_66 (by decide) ?_
    refine lv_istore_n (lv' := [(3, .int 1), (5, .int 1), (4, .int (nI i_85)), (2, .int x_86), (1, .int 6), (0, .ref rd)]) hx hb dX4_readEither_70 rfl hl (by decide) rfl (fun ls hl => ?_)
    refine lv_aload_n hx hb dX4_readEither_71 rfl (lv_at hl 5 rfl) ?_
    refine va_get (D := D) (ci := 4) (v := .ref tp) (C := RX4) (T := TX4) (N := 8) hx hb hts hin4 hown hK hP krd e_341 rfl 0 (by decide) (hts (.fieldLink RX4 12 "HoneyHouse$RuleReader" "tape" "LHoneyHouse$Tape;") (List.mem_of_getElem? (i := 1) rfl)) (fun _ h9 => h9) rfl dX4_readEither_72 ?_
    have hFc := free_all hD hS hA
    refine va_callv (va_runV (As := []) (rest := []) ⟨hx, hb, hml, hown, hts⟩ (a_advance l D ws_336 ty_337 tp ktp tl te_116 ya_123 (nI ts_115) bb k_136 c9_137 t_138 f_347 H.size (by omega) (by omega) e_342 e_346 u_348) (cwV 0 hts gX4_readEither_X6_advance rfl rfl rfl (by decide +kernel) ⟨Nat.le_of_ble_eq_true rfl, Nat.le_of_ble_eq_true rfl⟩) ⟨fun a U g mk q => by obtain ⟨q0, q1, qP, qK, qD⟩ := q; exact ⟨q0, q1, qP, va_K.moved (u := U) (U := U.calling g mk a) (Vm.Alike.refl U.vm) qK, qD⟩, va_recv hK hP (ci := 6) (q0 := ktp) rfl e_342, fun U hU hW => ⟨rfl, by rw [hU], by rw [hU]; exact hP, va_K.moved hW.alike hK, hD.weaken (fun _ _ _ _ => trivial)⟩⟩ rfl rfl hl.1 rfl (lv_room (Nat.le_of_ble_eq_true rfl)) dX4_readEither_75 ⟨Nat.le_of_ble_eq_true rfl, Nat.le_of_ble_eq_true rfl⟩) hS (fun q _ h => hFc q h) hFc (fun u t H1 locs ht hvm w_754 hB hz1 hk1 hS => ?_)
    obtain ⟨ws_755, ty_756, hm_757, ht_759, hP1, hK1, hD1, hx_758⟩ := hB
    rw [ht] at hP1
    have hK := va_K.moved hvm.symm hK1
    have hD := hD1.weaken (fun _ _ _ h => hFc _ h)
    generalize H1 = H at hP1 hS ⊢
    have hP := hP1
    have e_760 := hm_757.objK e_341 (by decide)
    obtain ⟨g_762, e_761, h_763⟩ := hm_757.obj e_342
    obtain ⟨z_764, z_765, z_766, z_767, rfl⟩ := smX6 h_763
    obtain ⟨f_769, e_768⟩ := hm_757.arrI e_343
    have u_770 := ht_759 _ _ u_345
    obtain ⟨f_772, e_771⟩ := hm_757.arrI e_346
    have u_773 := ht_759 _ _ u_348
    have hsm := hsm.tr (hm_757.mono (by decide))
    have hlp_93 := hlp_93.tr (hm_757.mono (by decide))
    have htx := htx.tr ht_759
    obtain ⟨k_774, s_775, e_776, h_777, h_778, h_779, e_780⟩ := hx_758
    refine lv_aload_n hx hb dX4_readEither_78 rfl (lv_at hl 5 rfl) ?_
    refine lv_iload_n hx hb dX4_readEither_79 rfl (lv_at hl 4 rfl) ?_
    have hFc := free_all hD hS hA
    refine va_calli (va_runV (As := [.int 6]) (rest := []) ⟨hx, hb, hml, hown, hts⟩ (r_readOne6 l D ws_755 ty_756 adK adV fo rd krd tp ktp cd bb tl  H.size (⟨s_775, e_776, cc_117, ra_118, rb_119, rc_120, rv_121, re_122, nI k_774, by omega, by omega, by omega, by omega, e_760, e_780, ⟨k_130, c9_131, t_132, f_769, e_768, u_770⟩, ⟨k_136, c9_137, t_138, f_772, e_771, u_773⟩⟩ : RS ws_755 ty_756 rd krd tp ktp cd bb tl)) (cwV 1 hts gX4_readEither_X4_readOne rfl rfl rfl (by decide +kernel) ⟨Nat.le_of_ble_eq_true rfl, Nat.le_of_ble_eq_true rfl⟩) ⟨fun a U g mk q => by obtain ⟨q0, q1, qP, qK, qD, qS⟩ := q; exact ⟨q0, q1, qP, va_K.moved (u := U) (U := U.calling g mk a) (Vm.Alike.refl U.vm) qK, qD, SZ.same rfl rfl qS⟩, va_recv hK hP (ci := 4) (q0 := krd) rfl e_760, fun U hU hW => ⟨rfl, by rw [hU], by rw [hU]; exact hP, va_K.moved hW.alike hK, hD.weaken (fun _ _ _ _ => trivial), hsz9.go hS hW hU hFc⟩⟩ rfl rfl hl.1 rfl (lv_room (Nat.le_of_ble_eq_true rfl)) dX4_readEither_80 ⟨Nat.le_of_ble_eq_true rfl, Nat.le_of_ble_eq_true rfl⟩) hS (fun q _ h => hFc q h) hFc (fun r_781 u t H1 locs ht hvm w_782 hB hz1 hk1 hS => ?_)
    obtain ⟨ws_783, ty_784, hm_785, ht_787, hP1, hK1, hD1, hx_786⟩ := hB
    rw [ht] at hP1
    have hK := va_K.moved hvm.symm hK1
    have hD := hD1.weaken (fun _ _ _ h => hFc _ h)
    generalize H1 = H at hP1 hS ⊢
    have hP := hP1
    obtain ⟨g_789, e_788, h_790⟩ := hm_785.obj e_760
    obtain ⟨z_791, z_792, z_793, z_794, z_795, z_796, rfl⟩ := smX4 h_790
    obtain ⟨g_798, e_797, h_799⟩ := hm_785.obj e_780
    obtain ⟨z_800, z_801, z_802, z_803, rfl⟩ := smX6 h_799
    obtain ⟨f_805, e_804⟩ := hm_785.arrI e_768
    have u_806 := ht_787 _ _ u_770
    obtain ⟨f_808, e_807⟩ := hm_785.arrI e_771
    have u_809 := ht_787 _ _ u_773
    have hsm := hsm.tr (hm_785.mono (by decide))
    have hlp_93 := hlp_93.tr (hm_785.mono (by decide))
    have htx := htx.tr ht_787
    obtain ⟨ts_810, te_811, cc_812, ra_813, rb_814, rc_815, rv_816, re_817, ya_818, h1_819, h2_820, h3_821, h4_822, er_823, et_824, ⟨k_825, c9_826, t_827, f_828, e_829, u_830⟩, ⟨k_831, c9_832, t_833, f_834, e_835, u_836⟩⟩ := id hx_786
    refine lv_istore_n (lv' := [(2, .int r_781), (3, .int 1), (5, .int 1), (4, .int (nI i_85)), (1, .int 6), (0, .ref rd)]) hx hb dX4_readEither_83 rfl hl (by decide) rfl (fun ls hl => ?_)
    refine lv_iload hx hb dX4_readEither_84 (lv_at hl 2 rfl) ?_
    refine lv_if_eq (tgt := 95) hx hb dX4_readEither_86 (by decide) (fun c_837 => absurd c_837 (by decide)) (fun c_837 => ?_)
    refine lv_aload_n hx hb dX4_readEither_89 rfl (lv_at hl 5 rfl) ?_
    refine lv_bipush (v := (-2)) hx hb dX4_readEither_90 (by decide) ?_
    have hFc := free_all hD hS hA
    refine va_callv (va_runV (As := [.int (-2)]) (rest := []) ⟨hx, hb, hml, hown, hts⟩ (r_addCode l D ws_783 ty_784 adK adV fo rd krd tp ktp cd bb tl (-2) H.size (⟨ts_810, te_811, cc_812, ra_813, rb_814, rc_815, rv_816, re_817, ya_818, by omega, by omega, by omega, by omega, er_823, et_824, ⟨k_825, c9_826, t_827, f_828, e_829, u_830⟩, ⟨k_831, c9_832, t_833, f_834, e_835, u_836⟩⟩ : RS ws_783 ty_784 rd krd tp ktp cd bb tl)) (cwV 1 hts gX4_readEither_X4_addCode rfl rfl rfl (by decide +kernel) ⟨Nat.le_of_ble_eq_true rfl, Nat.le_of_ble_eq_true rfl⟩) ⟨fun a U g mk q => by obtain ⟨q0, q1, qP, qK, qD, qS⟩ := q; exact ⟨q0, q1, qP, va_K.moved (u := U) (U := U.calling g mk a) (Vm.Alike.refl U.vm) qK, qD, SZ.same rfl rfl qS⟩, va_recv hK hP (ci := 4) (q0 := krd) rfl er_823, fun U hU hW => ⟨rfl, by rw [hU], by rw [hU]; exact hP, va_K.moved hW.alike hK, hD.weaken (fun _ _ _ _ => trivial), hsz9.go hS hW hU hFc⟩⟩ rfl rfl hl.1 rfl (lv_room (Nat.le_of_ble_eq_true rfl)) dX4_readEither_92 ⟨Nat.le_of_ble_eq_true rfl, Nat.le_of_ble_eq_true rfl⟩) hS (fun q _ h => hFc q h) hFc (fun u t H1 locs ht hvm w_839 hB hz1 hk1 hS => ?_)
    obtain ⟨ws_840, ty_841, hm_842, ht_844, hP1, hK1, hD1, hx_843⟩ := hB
    rw [ht] at hP1
    have hK := va_K.moved hvm.symm hK1
    have hD := hD1.weaken (fun _ _ _ h => hFc _ h)
    generalize H1 = H at hP1 hS ⊢
    have hP := hP1
    obtain ⟨g_846, e_845, h_847⟩ := hm_842.obj er_823
    obtain ⟨z_848, z_849, z_850, z_851, z_852, z_853, rfl⟩ := smX4 h_847
    obtain ⟨g_855, e_854, h_856⟩ := hm_842.obj et_824
    obtain ⟨z_857, z_858, z_859, z_860, rfl⟩ := smX6 h_856
    obtain ⟨f_862, e_861⟩ := hm_842.arrI e_829
    have u_863 := ht_844 _ _ u_830
    obtain ⟨f_865, e_864⟩ := hm_842.arrI e_835
    have u_866 := ht_844 _ _ u_836
    have hsm := hsm.tr (hm_842.mono (by decide))
    have hlp_93 := hlp_93.tr (hm_842.mono (by decide))
    have htx := htx.tr ht_844
    obtain ⟨ts_867, te_868, cc_869, ra_870, rb_871, rc_872, rv_873, re_874, ya_875, h1_876, h2_877, h3_878, h4_879, er_880, et_881, ⟨k_882, c9_883, t_884, f_885, e_886, u_887⟩, ⟨k_888, c9_889, t_890, f_891, e_892, u_893⟩⟩ := id hx_843
    refine lv_iinc (v := nI (i_85 + 1)) (lv' := [(4, .int (nI (i_85 + 1))), (2, .int r_781), (3, .int 1), (5, .int 1), (1, .int 6), (0, .ref rd)]) hx hb dX4_readEither_95 hl (k := 3) rfl (nI_add i_85 1) (by decide) rfl (fun ls hl => ?_)
    refine lv_goto (tgt := 11) hx hb dX4_readEither_98 (by decide) ?_
    exact ih_84 (i_85 + 1, r_781, 1) ws_840 _ _ ls (by show 400 - (i_85 + 1) < 400 - i_85; omega) ⟨hlp_93, (⟨ts_867, te_868, cc_869, ra_870, rb_871, rc_872, rv_873, re_874, ya_875, by omega, by omega, by omega, by omega, er_880, et_881, ⟨k_882, c9_883, t_884, f_885, e_886, u_887⟩, ⟨k_888, c9_889, t_890, f_891, e_892, u_893⟩⟩ : RS ws_840 ty_841 rd krd tp ktp cd bb tl), (show (i_85 + 1) ≤ 400 from by omega), (show r_781 = 0 ∨ r_781 = 1 from w_782), (show 1 = 0 ∨ 1 = 1 from Or.inr rfl)⟩ hP hD hS (lv_sub hl [0, 1, 2, 4, 5] rfl)
  refine lv_iload hx hb dX4_readEither_60 (lv_at hl 0 rfl) ?_
  refine lv_if_ne (tgt := 69) hx hb dX4_readEither_62 (by decide) (fun c_894 => ?_) (fun c_894 => absurd c_894 (by decide))
  refine lv_iconst (v := 0) hx hb dX4_readEither_69 (by decide) ?_
  refine lv_istore_n (lv' := [(3, .int 0), (5, .int 1), (4, .int (nI i_85)), (2, .int x_86), (1, .int 6), (0, .ref rd)]) hx hb dX4_readEither_70 rfl hl (by decide) rfl (fun ls hl => ?_)
  refine lv_aload_n hx hb dX4_readEither_71 rfl (lv_at hl 5 rfl) ?_
  refine va_get (D := D) (ci := 4) (v := .ref tp) (C := RX4) (T := TX4) (N := 8) hx hb hts hin4 hown hK hP krd e_341 rfl 0 (by decide) (hts (.fieldLink RX4 12 "HoneyHouse$RuleReader" "tape" "LHoneyHouse$Tape;") (List.mem_of_getElem? (i := 1) rfl)) (fun _ h9 => h9) rfl dX4_readEither_72 ?_
  have hFc := free_all hD hS hA
  refine va_callv (va_runV (As := []) (rest := []) ⟨hx, hb, hml, hown, hts⟩ (a_advance l D ws_336 ty_337 tp ktp tl te_116 ya_123 (nI ts_115) bb k_136 c9_137 t_138 f_347 H.size (by omega) (by omega) e_342 e_346 u_348) (cwV 0 hts gX4_readEither_X6_advance rfl rfl rfl (by decide +kernel) ⟨Nat.le_of_ble_eq_true rfl, Nat.le_of_ble_eq_true rfl⟩) ⟨fun a U g mk q => by obtain ⟨q0, q1, qP, qK, qD⟩ := q; exact ⟨q0, q1, qP, va_K.moved (u := U) (U := U.calling g mk a) (Vm.Alike.refl U.vm) qK, qD⟩, va_recv hK hP (ci := 6) (q0 := ktp) rfl e_342, fun U hU hW => ⟨rfl, by rw [hU], by rw [hU]; exact hP, va_K.moved hW.alike hK, hD.weaken (fun _ _ _ _ => trivial)⟩⟩ rfl rfl hl.1 rfl (lv_room (Nat.le_of_ble_eq_true rfl)) dX4_readEither_75 ⟨Nat.le_of_ble_eq_true rfl, Nat.le_of_ble_eq_true rfl⟩) hS (fun q _ h => hFc q h) hFc (fun u t H1 locs ht hvm w_896 hB hz1 hk1 hS => ?_)
  obtain ⟨ws_897, ty_898, hm_899, ht_901, hP1, hK1, hD1, hx_900⟩ := hB
  rw [ht] at hP1
  have hK := va_K.moved hvm.symm hK1
  have hD := hD1.weaken (fun _ _ _ h => hFc _ h)
  generalize H1 = H at hP1 hS ⊢
  have hP := hP1
  have e_902 := hm_899.objK e_341 (by decide)
  obtain ⟨g_904, e_903, h_905⟩ := hm_899.obj e_342
  obtain ⟨z_906, z_907, z_908, z_909, rfl⟩ := smX6 h_905
  obtain ⟨f_911, e_910⟩ := hm_899.arrI e_343
  have u_912 := ht_901 _ _ u_345
  obtain ⟨f_914, e_913⟩ := hm_899.arrI e_346
  have u_915 := ht_901 _ _ u_348
  have hsm := hsm.tr (hm_899.mono (by decide))
  have hlp_93 := hlp_93.tr (hm_899.mono (by decide))
  have htx := htx.tr ht_901
  obtain ⟨k_916, s_917, e_918, h_919, h_920, h_921, e_922⟩ := hx_900
  refine lv_aload_n hx hb dX4_readEither_78 rfl (lv_at hl 5 rfl) ?_
  refine lv_iload_n hx hb dX4_readEither_79 rfl (lv_at hl 4 rfl) ?_
  have hFc := free_all hD hS hA
  refine va_calli (va_runV (As := [.int 6]) (rest := []) ⟨hx, hb, hml, hown, hts⟩ (r_readOne6 l D ws_897 ty_898 adK adV fo rd krd tp ktp cd bb tl  H.size (⟨s_917, e_918, cc_117, ra_118, rb_119, rc_120, rv_121, re_122, nI k_916, by omega, by omega, by omega, by omega, e_902, e_922, ⟨k_130, c9_131, t_132, f_911, e_910, u_912⟩, ⟨k_136, c9_137, t_138, f_914, e_913, u_915⟩⟩ : RS ws_897 ty_898 rd krd tp ktp cd bb tl)) (cwV 1 hts gX4_readEither_X4_readOne rfl rfl rfl (by decide +kernel) ⟨Nat.le_of_ble_eq_true rfl, Nat.le_of_ble_eq_true rfl⟩) ⟨fun a U g mk q => by obtain ⟨q0, q1, qP, qK, qD, qS⟩ := q; exact ⟨q0, q1, qP, va_K.moved (u := U) (U := U.calling g mk a) (Vm.Alike.refl U.vm) qK, qD, SZ.same rfl rfl qS⟩, va_recv hK hP (ci := 4) (q0 := krd) rfl e_902, fun U hU hW => ⟨rfl, by rw [hU], by rw [hU]; exact hP, va_K.moved hW.alike hK, hD.weaken (fun _ _ _ _ => trivial), hsz9.go hS hW hU hFc⟩⟩ rfl rfl hl.1 rfl (lv_room (Nat.le_of_ble_eq_true rfl)) dX4_readEither_80 ⟨Nat.le_of_ble_eq_true rfl, Nat.le_of_ble_eq_true rfl⟩) hS (fun q _ h => hFc q h) hFc (fun r_923 u t H1 locs ht hvm w_924 hB hz1 hk1 hS => ?_)
  obtain ⟨ws_925, ty_926, hm_927, ht_929, hP1, hK1, hD1, hx_928⟩ := hB
  rw [ht] at hP1
  have hK := va_K.moved hvm.symm hK1
  have hD := hD1.weaken (fun _ _ _ h => hFc _ h)
  generalize H1 = H at hP1 hS ⊢
  have hP := hP1
  obtain ⟨g_931, e_930, h_932⟩ := hm_927.obj e_902
  obtain ⟨z_933, z_934, z_935, z_936, z_937, z_938, rfl⟩ := smX4 h_932
  obtain ⟨g_940, e_939, h_941⟩ := hm_927.obj e_922
  obtain ⟨z_942, z_943, z_944, z_945, rfl⟩ := smX6 h_941
  obtain ⟨f_947, e_946⟩ := hm_927.arrI e_910
  have u_948 := ht_929 _ _ u_912
  obtain ⟨f_950, e_949⟩ := hm_927.arrI e_913
  have u_951 := ht_929 _ _ u_915
  have hsm := hsm.tr (hm_927.mono (by decide))
  have hlp_93 := hlp_93.tr (hm_927.mono (by decide))
  have htx := htx.tr ht_929
  obtain ⟨ts_952, te_953, cc_954, ra_955, rb_956, rc_957, rv_958, re_959, ya_960, h1_961, h2_962, h3_963, h4_964, er_965, et_966, ⟨k_967, c9_968, t_969, f_970, e_971, u_972⟩, ⟨k_973, c9_974, t_975, f_976, e_977, u_978⟩⟩ := id hx_928
  refine lv_istore_n (lv' := [(2, .int r_923), (3, .int 0), (5, .int 1), (4, .int (nI i_85)), (1, .int 6), (0, .ref rd)]) hx hb dX4_readEither_83 rfl hl (by decide) rfl (fun ls hl => ?_)
  refine lv_iload hx hb dX4_readEither_84 (lv_at hl 2 rfl) ?_
  refine lv_if_eq (tgt := 95) hx hb dX4_readEither_86 (by decide) (fun c_979 => absurd c_979 (by decide)) (fun c_979 => ?_)
  refine lv_aload_n hx hb dX4_readEither_89 rfl (lv_at hl 5 rfl) ?_
  refine lv_bipush (v := (-2)) hx hb dX4_readEither_90 (by decide) ?_
  have hFc := free_all hD hS hA
  refine va_callv (va_runV (As := [.int (-2)]) (rest := []) ⟨hx, hb, hml, hown, hts⟩ (r_addCode l D ws_925 ty_926 adK adV fo rd krd tp ktp cd bb tl (-2) H.size (⟨ts_952, te_953, cc_954, ra_955, rb_956, rc_957, rv_958, re_959, ya_960, by omega, by omega, by omega, by omega, er_965, et_966, ⟨k_967, c9_968, t_969, f_970, e_971, u_972⟩, ⟨k_973, c9_974, t_975, f_976, e_977, u_978⟩⟩ : RS ws_925 ty_926 rd krd tp ktp cd bb tl)) (cwV 1 hts gX4_readEither_X4_addCode rfl rfl rfl (by decide +kernel) ⟨Nat.le_of_ble_eq_true rfl, Nat.le_of_ble_eq_true rfl⟩) ⟨fun a U g mk q => by obtain ⟨q0, q1, qP, qK, qD, qS⟩ := q; exact ⟨q0, q1, qP, va_K.moved (u := U) (U := U.calling g mk a) (Vm.Alike.refl U.vm) qK, qD, SZ.same rfl rfl qS⟩, va_recv hK hP (ci := 4) (q0 := krd) rfl er_965, fun U hU hW => ⟨rfl, by rw [hU], by rw [hU]; exact hP, va_K.moved hW.alike hK, hD.weaken (fun _ _ _ _ => trivial), hsz9.go hS hW hU hFc⟩⟩ rfl rfl hl.1 rfl (lv_room (Nat.le_of_ble_eq_true rfl)) dX4_readEither_92 ⟨Nat.le_of_ble_eq_true rfl, Nat.le_of_ble_eq_true rfl⟩) hS (fun q _ h => hFc q h) hFc (fun u t H1 locs ht hvm w_981 hB hz1 hk1 hS => ?_)
  obtain ⟨ws_982, ty_983, hm_984, ht_986, hP1, hK1, hD1, hx_985⟩ := hB
  rw [ht] at hP1
  have hK := va_K.moved hvm.symm hK1
  have hD := hD1.weaken (fun _ _ _ h => hFc _ h)
  generalize H1 = H at hP1 hS ⊢
  have hP := hP1
  obtain ⟨g_988, e_987, h_989⟩ := hm_984.obj er_965
  obtain ⟨z_990, z_991, z_992, z_993, z_994, z_995, rfl⟩ := smX4 h_989
  obtain ⟨g_997, e_996, h_998⟩ := hm_984.obj et_966
  obtain ⟨z_999, z_1000, z_1001, z_1002, rfl⟩ := smX6 h_998
  obtain ⟨f_1004, e_1003⟩ := hm_984.arrI e_971
  have u_1005 := ht_986 _ _ u_972
  obtain ⟨f_1007, e_1006⟩ := hm_984.arrI e_977
  have u_1008 := ht_986 _ _ u_978
  have hsm := hsm.tr (hm_984.mono (by decide))
  have hlp_93 := hlp_93.tr (hm_984.mono (by decide))
  have htx := htx.tr ht_986
  obtain ⟨ts_1009, te_1010, cc_1011, ra_1012, rb_1013, rc_1014, rv_1015, re_1016, ya_1017, h1_1018, h2_1019, h3_1020, h4_1021, er_1022, et_1023, ⟨k_1024, c9_1025, t_1026, f_1027, e_1028, u_1029⟩, ⟨k_1030, c9_1031, t_1032, f_1033, e_1034, u_1035⟩⟩ := id hx_985
  refine lv_iinc (v := nI (i_85 + 1)) (lv' := [(4, .int (nI (i_85 + 1))), (2, .int r_923), (3, .int 0), (5, .int 1), (1, .int 6), (0, .ref rd)]) hx hb dX4_readEither_95 hl (k := 3) rfl (nI_add i_85 1) (by decide) rfl (fun ls hl => ?_)
  refine lv_goto (tgt := 11) hx hb dX4_readEither_98 (by decide) ?_
  exact ih_84 (i_85 + 1, r_923, 0) ws_982 _ _ ls (by show 400 - (i_85 + 1) < 400 - i_85; omega) ⟨hlp_93, (⟨ts_1009, te_1010, cc_1011, ra_1012, rb_1013, rc_1014, rv_1015, re_1016, ya_1017, by omega, by omega, by omega, by omega, er_1022, et_1023, ⟨k_1024, c9_1025, t_1026, f_1027, e_1028, u_1029⟩, ⟨k_1030, c9_1031, t_1032, f_1033, e_1034, u_1035⟩⟩ : RS ws_982 ty_983 rd krd tp ktp cd bb tl), (show (i_85 + 1) ≤ 400 from by omega), (show r_923 = 0 ∨ r_923 = 1 from w_924), (show 0 = 0 ∨ 0 = 1 from Or.inl rfl)⟩ hP hD hS (lv_sub hl [0, 1, 2, 4, 5] rfl)
set_option maxHeartbeats 4000000 in
set_option maxRecDepth 100000 in
theorem r_readOne5 (l : Launch) (D : va_G) (ws : va_W) (tys : List (ClassId × FieldType)) (adK adV : Nat → Nat) (fo : Option Nat) (rd krd tp ktp cd bb tl : Nat)  (sz : Nat) (R0 : RS ws tys rd krd tp ktp cd bb tl)  : Met l yX4_readOne wsX4_readOne ({ frames := 9, cells := 0, slots := 0, locals := 197 }) (va_Pc [.ref rd, .int 5] (fun U => U.heap.size = sz ∧ va_P D vwCl ws U.heap ∧ va_K D vwCl tys U ∧ va_D (fun _ => True) ws ∧ SZ adK adV fo (va_A ws sz) U U.heap)) (va_Qi (fun (r : Int32) (_ : Unit) => r = 0 ∨ r = 1) (fun (_ : Unit) (t : State) => ∃ (ws' : va_W) (tys' : List (ClassId × FieldType)), sm [4, 6] ws ws' ∧ tyx tys tys' ∧ va_P D vwCl ws' t.heap ∧ va_K D vwCl tys' t ∧ va_D (va_A ws sz) ws' ∧ RS ws' tys' rd krd tp ktp cd bb tl) (va_A ws sz)) 0 0 (va_A ws sz) := by
  refine Met.ofW (cc := cX4_readOne) (maxL := 4) (ret := (some .boolean)) (by decide) rfl ?_
  intro p e s m args below meth c s₁ B hml hv
  obtain ⟨rfl, hsz, hP, hK, hD0, hsz9⟩ := hv
  have hx := B.exec
  have hb := B.bytes
  have hr := B.returns
  have hts := atoms_spec (ws := wsX4_readOne) B.pre
  have hown : s.vm.findClass RX4 = some m.cls := findClass_of_methodNamed B.named
  have hlocks := B.notSynchronized
  subst hsz
  have hD := hD0.self (sz := s.heap.size)
  generalize hAe : va_A ws s.heap.size = A at hD hsz9 ⊢
  have hA : ∀ q : Nat, s.heap.size ≤ q → A q := fun q h => by rw [← hAe]; exact Or.inr h
  have hS : va_S A s.heap s.heap [] := va_S.rf
  have hsm : sm [4, 6] ws ws := sm.rf ws
  have htx : tyx tys tys := tyx.rf tys
  have hin4 : ∀ w ∈ u_ws RX4 TX4 8, w ∈ wsX4_readOne := (fun _ h9 => List.mem_cons_of_mem _ (List.mem_append_left _ ((List.mem_append_right _ h9))))
  have hl := lv_entry ([.ref rd, .int 5]) (n := 4) (Nat.le_of_ble_eq_true rfl)
  rw [lg_entry_eq]
  generalize (lg_sl ([.ref rd, .int 5]) ++ List.replicate (4 - (lg_sl ([.ref rd, .int 5])).length) Slot.unset).toArray = ls at hl ⊢
  have hl : lv_has ls 4 [(0, .ref rd), (1, .int 5)] := hl
  obtain ⟨ts_1, te_2, cc_3, ra_4, rb_5, rc_6, rv_7, re_8, ya_9, h1_10, h2_11, h3_12, h4_13, er_14, et_15, ⟨k_16, c9_17, t_18, f_19, e_20, u_21⟩, ⟨k_22, c9_23, t_24, f_25, e_26, u_27⟩⟩ := id R0
  refine lv_aload_n hx hb dX4_readOne_0 rfl (lv_at hl 0 rfl) ?_
  refine va_get (D := D) (ci := 4) (v := .ref tp) (C := RX4) (T := TX4) (N := 8) hx hb hts hin4 hown hK hP krd er_14 rfl 0 (by decide) (hts (.fieldLink RX4 12 "HoneyHouse$RuleReader" "tape" "LHoneyHouse$Tape;") (List.mem_of_getElem? (i := 1) rfl)) (fun _ h9 => h9) rfl dX4_readOne_1 ?_
  refine va_ldcS hx hb hown hsz9.2.2.2.2.2.2.1 dX4_readOne_4 ?_
  have hFc := free_all hD hS hA
  refine va_calli (va_runV (As := [.ref (adK 3)]) (rest := []) ⟨hx, hb, hml, hown, hts⟩ (a_isWord l D ws tys adK adV fo 3 tp ktp tl ya_9 (nI ts_1) (nI te_2) bb k_22 c9_23 t_24 f_25 s.heap.size (by decide) et_15 e_26 u_27) (cwV 1 hts gX4_readOne_X6_isWord rfl rfl rfl (by decide +kernel) ⟨Nat.le_of_ble_eq_true rfl, Nat.le_of_ble_eq_true rfl⟩) ⟨fun a U g mk q => by obtain ⟨q0, q1, qP, qK, qD, qS⟩ := q; exact ⟨q0, q1, qP, va_K.moved (u := U) (U := U.calling g mk a) (Vm.Alike.refl U.vm) qK, qD, SZ.same rfl rfl qS⟩, va_recv hK hP (ci := 6) (q0 := ktp) rfl et_15, fun U hU hW => ⟨rfl, by rw [hU], by rw [hU]; exact hP, va_K.moved hW.alike hK, hD.weaken (fun _ _ _ _ => trivial), hsz9.go hS hW hU hFc⟩⟩ rfl rfl hl.1 rfl (lv_room (Nat.le_of_ble_eq_true rfl)) dX4_readOne_6 ⟨Nat.le_of_ble_eq_true rfl, Nat.le_of_ble_eq_true rfl⟩) hS (fun q _ h => hFc q h) hFc (fun r_28 u t H1 locs ht hvm w_29 hB hz1 hk1 hS => ?_)
  obtain ⟨ws_30, ty_31, hm_32, ht_34, hP1, hK1, hD1, hx_33⟩ := hB
  rw [ht] at hP1
  have hK := va_K.moved hvm.symm hK1
  have hD := hD1.weaken (fun _ _ _ h => hFc _ h)
  generalize H1 = H at hP1 hS ⊢
  have hP := hP1
  have e_35 := hm_32.objK er_14 (by decide)
  have e_36 := hm_32.objK et_15 (by decide)
  obtain ⟨f_38, e_37⟩ := hm_32.arrI e_20
  have u_39 := ht_34 _ _ u_21
  obtain ⟨f_41, e_40⟩ := hm_32.arrI e_26
  have u_42 := ht_34 _ _ u_27
  have hsm := hsm.tr (hm_32.mono (by decide))
  have htx := htx.tr ht_34
  rcases w_29 with rfl | rfl
  · refine lv_istore_n (lv' := [(2, .int 0), (0, .ref rd), (1, .int 5)]) hx hb dX4_readOne_9 rfl hl (by decide) rfl (fun ls hl => ?_)
    refine lv_iload_n hx hb dX4_readOne_10 rfl (lv_at hl 0 rfl) ?_
    refine lv_if_ne (tgt := 31) hx hb dX4_readOne_11 (by decide) (fun c_43 => absurd (by decide) c_43) (fun c_43 => ?_)
    refine lv_aload_n hx hb dX4_readOne_14 rfl (lv_at hl 1 rfl) ?_
    refine va_get (D := D) (ci := 4) (v := .ref tp) (C := RX4) (T := TX4) (N := 8) hx hb hts hin4 hown hK hP krd e_35 rfl 0 (by decide) (hts (.fieldLink RX4 12 "HoneyHouse$RuleReader" "tape" "LHoneyHouse$Tape;") (List.mem_of_getElem? (i := 1) rfl)) (fun _ h9 => h9) rfl dX4_readOne_15 ?_
    refine lv_bipush (v := 40) hx hb dX4_readOne_18 (by decide) ?_
    refine vp_callSi (W.runV (As := [.int 40]) (rest := []) ⟨hx, hb, hml, hown, hts⟩ (s_isByte l D ws_30 ty_31 tp ktp tl ya_9 (nI ts_1) (nI te_2) bb k_22 c9_23 t_24 f_41 40 e_36 e_40 u_42) (cwV 1 hts gX4_readOne_X6_isByte rfl rfl rfl (by decide +kernel) ⟨Nat.le_of_ble_eq_true rfl, Nat.le_of_ble_eq_true rfl⟩) ⟨fun a U g mk q => ⟨q.1, q.2.1, va_K.moved (u := U) (U := U.calling g mk a) (Vm.Alike.refl U.vm) q.2.2⟩, va_recv hK hP (ci := 6) (q0 := ktp) rfl e_36, fun U hU hW => ⟨rfl, by rw [hU]; exact hP, va_K.moved hW.alike hK⟩⟩ rfl rfl hl.1 rfl (lv_room (Nat.le_of_ble_eq_true rfl)) dX4_readOne_20 ⟨Nat.le_of_ble_eq_true rfl, Nat.le_of_ble_eq_true rfl⟩) (fun r_44 k_45 => ?_)
    rcases k_45 with rfl | rfl
    · refine lv_if_ne (tgt := 31) hx hb dX4_readOne_23 (by decide) (fun c_46 => absurd (by decide) c_46) (fun c_46 => ?_)
      refine lv_aload_n hx hb dX4_readOne_26 rfl (lv_at hl 1 rfl) ?_
      have hFc := free_all hD hS hA
      refine va_calli (va_runV (As := []) (rest := []) ⟨hx, hb, hml, hown, hts⟩ (r_readTest l D ws_30 ty_31 adK adV fo rd krd tp ktp cd bb tl  H.size (⟨ts_1, te_2, cc_3, ra_4, rb_5, rc_6, rv_7, re_8, ya_9, by omega, by omega, by omega, by omega, e_35, e_36, ⟨k_16, c9_17, t_18, f_38, e_37, u_39⟩, ⟨k_22, c9_23, t_24, f_41, e_40, u_42⟩⟩ : RS ws_30 ty_31 rd krd tp ktp cd bb tl)) (cwV 0 hts gX4_readOne_X4_readTest rfl rfl rfl (by decide +kernel) ⟨Nat.le_of_ble_eq_true rfl, Nat.le_of_ble_eq_true rfl⟩) ⟨fun a U g mk q => by obtain ⟨q0, q1, qP, qK, qD, qS⟩ := q; exact ⟨q0, q1, qP, va_K.moved (u := U) (U := U.calling g mk a) (Vm.Alike.refl U.vm) qK, qD, SZ.same rfl rfl qS⟩, va_recv hK hP (ci := 4) (q0 := krd) rfl e_35, fun U hU hW => ⟨rfl, by rw [hU], by rw [hU]; exact hP, va_K.moved hW.alike hK, hD.weaken (fun _ _ _ _ => trivial), hsz9.go hS hW hU hFc⟩⟩ rfl rfl hl.1 rfl (lv_room (Nat.le_of_ble_eq_true rfl)) dX4_readOne_27 ⟨Nat.le_of_ble_eq_true rfl, Nat.le_of_ble_eq_true rfl⟩) hS (fun q _ h => hFc q h) hFc (fun r_47 u t H1 locs ht hvm w_48 hB hz1 hk1 hS => ?_)
      obtain ⟨ws_49, ty_50, hm_51, ht_53, hP1, hK1, hD1, hx_52⟩ := hB
      rw [ht] at hP1
      have hK := va_K.moved hvm.symm hK1
      have hD := hD1.weaken (fun _ _ _ h => hFc _ h)
      generalize H1 = H at hP1 hS ⊢
      have hP := hP1
      obtain ⟨g_55, e_54, h_56⟩ := hm_51.obj e_35
      obtain ⟨z_57, z_58, z_59, z_60, z_61, z_62, rfl⟩ := smX4 h_56
      obtain ⟨g_64, e_63, h_65⟩ := hm_51.obj e_36
      obtain ⟨z_66, z_67, z_68, z_69, rfl⟩ := smX6 h_65
      obtain ⟨f_71, e_70⟩ := hm_51.arrI e_37
      have u_72 := ht_53 _ _ u_39
      obtain ⟨f_74, e_73⟩ := hm_51.arrI e_40
      have u_75 := ht_53 _ _ u_42
      have hsm := hsm.tr (hm_51.mono (by decide))
      have htx := htx.tr ht_53
      obtain ⟨ts_76, te_77, cc_78, ra_79, rb_80, rc_81, rv_82, re_83, ya_84, h1_85, h2_86, h3_87, h4_88, er_89, et_90, ⟨k_91, c9_92, t_93, f_94, e_95, u_96⟩, ⟨k_97, c9_98, t_99, f_100, e_101, u_102⟩⟩ := id hx_52
      exact W.zret (v := r_47) hx hb hr (by rcases w_48 with h9 | h9 <;> rw [h9] <;> rfl) (fun t ht hW => ⟨⟨r_47, (), rfl, w_48, ws_49, ty_50, hsm, htx, by rw [ht]; exact hP, va_K.moved hW.alike hK, hD, (⟨ts_76, te_77, cc_78, ra_79, rb_80, rc_81, rv_82, re_83, ya_84, by omega, by omega, by omega, by omega, er_89, et_90, ⟨k_91, c9_92, t_93, f_94, e_95, u_96⟩, ⟨k_97, c9_98, t_99, f_100, e_101, u_102⟩⟩ : RS ws_49 ty_50 rd krd tp ktp cd bb tl)⟩, hS.F ht⟩) hS.2.2 dX4_readOne_30
    refine lv_if_ne (tgt := 31) hx hb dX4_readOne_23 (by decide) (fun c_103 => ?_) (fun c_103 => absurd c_103 (by decide))
    refine lv_iload_n hx hb dX4_readOne_31 rfl (lv_at hl 2 rfl) ?_
    refine lv_bipush (v := 6) hx hb dX4_readOne_32 (by decide) ?_
    refine lv_icmp_lt (tgt := 50) hx hb dX4_readOne_34 (by decide) (fun c_104 => ?_) (fun c_104 => absurd (by decide) c_104)
    refine lv_aload_n hx hb dX4_readOne_50 rfl (lv_at hl 1 rfl) ?_
    refine va_get (D := D) (ci := 4) (v := .ref tp) (C := RX4) (T := TX4) (N := 8) hx hb hts hin4 hown hK hP krd e_35 rfl 0 (by decide) (hts (.fieldLink RX4 12 "HoneyHouse$RuleReader" "tape" "LHoneyHouse$Tape;") (List.mem_of_getElem? (i := 1) rfl)) (fun _ h9 => h9) rfl dX4_readOne_51 ?_
    have hFc := free_all hD hS hA
    refine va_callv (va_runV (As := []) (rest := []) ⟨hx, hb, hml, hown, hts⟩ (a_advance l D ws_30 ty_31 tp ktp tl te_2 ya_9 (nI ts_1) bb k_22 c9_23 t_24 f_41 H.size (by omega) (by omega) e_36 e_40 u_42) (cwV 0 hts gX4_readOne_X6_advance rfl rfl rfl (by decide +kernel) ⟨Nat.le_of_ble_eq_true rfl, Nat.le_of_ble_eq_true rfl⟩) ⟨fun a U g mk q => by obtain ⟨q0, q1, qP, qK, qD⟩ := q; exact ⟨q0, q1, qP, va_K.moved (u := U) (U := U.calling g mk a) (Vm.Alike.refl U.vm) qK, qD⟩, va_recv hK hP (ci := 6) (q0 := ktp) rfl e_36, fun U hU hW => ⟨rfl, by rw [hU], by rw [hU]; exact hP, va_K.moved hW.alike hK, hD.weaken (fun _ _ _ _ => trivial)⟩⟩ rfl rfl hl.1 rfl (lv_room (Nat.le_of_ble_eq_true rfl)) dX4_readOne_54 ⟨Nat.le_of_ble_eq_true rfl, Nat.le_of_ble_eq_true rfl⟩) hS (fun q _ h => hFc q h) hFc (fun u t H1 locs ht hvm w_106 hB hz1 hk1 hS => ?_)
    obtain ⟨ws_107, ty_108, hm_109, ht_111, hP1, hK1, hD1, hx_110⟩ := hB
    rw [ht] at hP1
    have hK := va_K.moved hvm.symm hK1
    have hD := hD1.weaken (fun _ _ _ h => hFc _ h)
    generalize H1 = H at hP1 hS ⊢
    have hP := hP1
    have e_112 := hm_109.objK e_35 (by decide)
    obtain ⟨g_114, e_113, h_115⟩ := hm_109.obj e_36
    obtain ⟨z_116, z_117, z_118, z_119, rfl⟩ := smX6 h_115
    obtain ⟨f_121, e_120⟩ := hm_109.arrI e_37
    have u_122 := ht_111 _ _ u_39
    obtain ⟨f_124, e_123⟩ := hm_109.arrI e_40
    have u_125 := ht_111 _ _ u_42
    have hsm := hsm.tr (hm_109.mono (by decide))
    have htx := htx.tr ht_111
    obtain ⟨k_126, s_127, e_128, h_129, h_130, h_131, e_132⟩ := hx_110
    refine lv_iload_n hx hb dX4_readOne_57 rfl (lv_at hl 0 rfl) ?_
    refine lv_if_ne (tgt := 86) hx hb dX4_readOne_58 (by decide) (fun c_133 => absurd (by decide) c_133) (fun c_133 => ?_)
    refine lv_aload_n hx hb dX4_readOne_61 rfl (lv_at hl 1 rfl) ?_
    refine lv_iload_n hx hb dX4_readOne_62 rfl (lv_at hl 2 rfl) ?_
    refine lv_iconst (v := 1) hx hb dX4_readOne_63 (by decide) ?_
    refine lv_iadd hx hb dX4_readOne_64 ?_
    refine tp_i (y := 6) (by decide) ?_
    have hFc := free_all hD hS hA
    refine va_calli (va_runV (As := [.int 6]) (rest := []) ⟨hx, hb, hml, hown, hts⟩ (r_readEither6 l D ws_107 ty_108 adK adV fo rd krd tp ktp cd bb tl  H.size (⟨s_127, e_128, cc_3, ra_4, rb_5, rc_6, rv_7, re_8, nI k_126, by omega, by omega, by omega, by omega, e_112, e_132, ⟨k_16, c9_17, t_18, f_121, e_120, u_122⟩, ⟨k_22, c9_23, t_24, f_124, e_123, u_125⟩⟩ : RS ws_107 ty_108 rd krd tp ktp cd bb tl)) (cwV 1 hts gX4_readOne_X4_readEither rfl rfl rfl (by decide +kernel) ⟨Nat.le_of_ble_eq_true rfl, Nat.le_of_ble_eq_true rfl⟩) ⟨fun a U g mk q => by obtain ⟨q0, q1, qP, qK, qD, qS⟩ := q; exact ⟨q0, q1, qP, va_K.moved (u := U) (U := U.calling g mk a) (Vm.Alike.refl U.vm) qK, qD, SZ.same rfl rfl qS⟩, va_recv hK hP (ci := 4) (q0 := krd) rfl e_112, fun U hU hW => ⟨rfl, by rw [hU], by rw [hU]; exact hP, va_K.moved hW.alike hK, hD.weaken (fun _ _ _ _ => trivial), hsz9.go hS hW hU hFc⟩⟩ rfl rfl hl.1 rfl (lv_room (Nat.le_of_ble_eq_true rfl)) dX4_readOne_65 ⟨Nat.le_of_ble_eq_true rfl, Nat.le_of_ble_eq_true rfl⟩) hS (fun q _ h => hFc q h) hFc (fun r_134 u t H1 locs ht hvm w_135 hB hz1 hk1 hS => ?_)
    obtain ⟨ws_136, ty_137, hm_138, ht_140, hP1, hK1, hD1, hx_139⟩ := hB
    rw [ht] at hP1
    have hK := va_K.moved hvm.symm hK1
    have hD := hD1.weaken (fun _ _ _ h => hFc _ h)
    generalize H1 = H at hP1 hS ⊢
    have hP := hP1
    obtain ⟨g_142, e_141, h_143⟩ := hm_138.obj e_112
    obtain ⟨z_144, z_145, z_146, z_147, z_148, z_149, rfl⟩ := smX4 h_143
    obtain ⟨g_151, e_150, h_152⟩ := hm_138.obj e_132
    obtain ⟨z_153, z_154, z_155, z_156, rfl⟩ := smX6 h_152
    obtain ⟨f_158, e_157⟩ := hm_138.arrI e_120
    have u_159 := ht_140 _ _ u_122
    obtain ⟨f_161, e_160⟩ := hm_138.arrI e_123
    have u_162 := ht_140 _ _ u_125
    have hsm := hsm.tr (hm_138.mono (by decide))
    have htx := htx.tr ht_140
    obtain ⟨ts_163, te_164, cc_165, ra_166, rb_167, rc_168, rv_169, re_170, ya_171, h1_172, h2_173, h3_174, h4_175, er_176, et_177, ⟨k_178, c9_179, t_180, f_181, e_182, u_183⟩, ⟨k_184, c9_185, t_186, f_187, e_188, u_189⟩⟩ := id hx_139
    refine lv_if_eq (tgt := 84) hx hb dX4_readOne_68 (by decide) (fun c_190 => ?_) (fun c_190 => ?_)
    · refine lv_iconst (v := 0) hx hb dX4_readOne_84 (by decide) ?_
      exact W.zret (v := 0) hx hb hr rfl (fun t ht hW => ⟨⟨0, (), rfl, Or.inl rfl, ws_136, ty_137, hsm, htx, by rw [ht]; exact hP, va_K.moved hW.alike hK, hD, (⟨ts_163, te_164, cc_165, ra_166, rb_167, rc_168, rv_169, re_170, ya_171, by omega, by omega, by omega, by omega, er_176, et_177, ⟨k_178, c9_179, t_180, f_181, e_182, u_183⟩, ⟨k_184, c9_185, t_186, f_187, e_188, u_189⟩⟩ : RS ws_136 ty_137 rd krd tp ktp cd bb tl)⟩, hS.F ht⟩) hS.2.2 dX4_readOne_85
    refine lv_aload_n hx hb dX4_readOne_71 rfl (lv_at hl 1 rfl) ?_
    refine lv_bipush (v := 41) hx hb dX4_readOne_72 (by decide) ?_
    have hFc := free_all hD hS hA
    refine va_calli (va_runV (As := [.int 41]) (rest := []) ⟨hx, hb, hml, hown, hts⟩ (r_readByte l D ws_136 ty_137 adK adV fo rd krd tp ktp cd bb tl 41 H.size (⟨ts_163, te_164, cc_165, ra_166, rb_167, rc_168, rv_169, re_170, ya_171, by omega, by omega, by omega, by omega, er_176, et_177, ⟨k_178, c9_179, t_180, f_181, e_182, u_183⟩, ⟨k_184, c9_185, t_186, f_187, e_188, u_189⟩⟩ : RS ws_136 ty_137 rd krd tp ktp cd bb tl)) (cwV 1 hts gX4_readOne_X4_readByte rfl rfl rfl (by decide +kernel) ⟨Nat.le_of_ble_eq_true rfl, Nat.le_of_ble_eq_true rfl⟩) ⟨fun a U g mk q => by obtain ⟨q0, q1, qP, qK, qD, qS⟩ := q; exact ⟨q0, q1, qP, va_K.moved (u := U) (U := U.calling g mk a) (Vm.Alike.refl U.vm) qK, qD, SZ.same rfl rfl qS⟩, va_recv hK hP (ci := 4) (q0 := krd) rfl er_176, fun U hU hW => ⟨rfl, by rw [hU], by rw [hU]; exact hP, va_K.moved hW.alike hK, hD.weaken (fun _ _ _ _ => trivial), hsz9.go hS hW hU hFc⟩⟩ rfl rfl hl.1 rfl (lv_room (Nat.le_of_ble_eq_true rfl)) dX4_readOne_74 ⟨Nat.le_of_ble_eq_true rfl, Nat.le_of_ble_eq_true rfl⟩) hS (fun q _ h => hFc q h) hFc (fun r_191 u t H1 locs ht hvm w_192 hB hz1 hk1 hS => ?_)
    obtain ⟨ws_193, ty_194, hm_195, ht_197, hP1, hK1, hD1, hx_196⟩ := hB
    rw [ht] at hP1
    have hK := va_K.moved hvm.symm hK1
    have hD := hD1.weaken (fun _ _ _ h => hFc _ h)
    generalize H1 = H at hP1 hS ⊢
    have hP := hP1
    obtain ⟨g_199, e_198, h_200⟩ := hm_195.obj er_176
    obtain ⟨z_201, z_202, z_203, z_204, z_205, z_206, rfl⟩ := smX4 h_200
    obtain ⟨g_208, e_207, h_209⟩ := hm_195.obj et_177
    obtain ⟨z_210, z_211, z_212, z_213, rfl⟩ := smX6 h_209
    obtain ⟨f_215, e_214⟩ := hm_195.arrI e_182
    have u_216 := ht_197 _ _ u_183
    obtain ⟨f_218, e_217⟩ := hm_195.arrI e_188
    have u_219 := ht_197 _ _ u_189
    have hsm := hsm.tr (hm_195.mono (by decide))
    have htx := htx.tr ht_197
    obtain ⟨ts_220, te_221, cc_222, ra_223, rb_224, rc_225, rv_226, re_227, ya_228, h1_229, h2_230, h3_231, h4_232, er_233, et_234, ⟨k_235, c9_236, t_237, f_238, e_239, u_240⟩, ⟨k_241, c9_242, t_243, f_244, e_245, u_246⟩⟩ := id hx_196
    rcases w_192 with rfl | rfl
    · refine lv_if_eq (tgt := 84) hx hb dX4_readOne_77 (by decide) (fun c_247 => ?_) (fun c_247 => absurd (by decide) c_247)
      refine lv_iconst (v := 0) hx hb dX4_readOne_84 (by decide) ?_
      exact W.zret (v := 0) hx hb hr rfl (fun t ht hW => ⟨⟨0, (), rfl, Or.inl rfl, ws_193, ty_194, hsm, htx, by rw [ht]; exact hP, va_K.moved hW.alike hK, hD, (⟨ts_220, te_221, cc_222, ra_223, rb_224, rc_225, rv_226, re_227, ya_228, by omega, by omega, by omega, by omega, er_233, et_234, ⟨k_235, c9_236, t_237, f_238, e_239, u_240⟩, ⟨k_241, c9_242, t_243, f_244, e_245, u_246⟩⟩ : RS ws_193 ty_194 rd krd tp ktp cd bb tl)⟩, hS.F ht⟩) hS.2.2 dX4_readOne_85
    refine lv_if_eq (tgt := 84) hx hb dX4_readOne_77 (by decide) (fun c_248 => absurd c_248 (by decide)) (fun c_248 => ?_)
    refine lv_iconst (v := 1) hx hb dX4_readOne_80 (by decide) ?_
    refine lv_goto (tgt := 85) hx hb dX4_readOne_81 (by decide) ?_
    exact W.zret (v := 1) hx hb hr rfl (fun t ht hW => ⟨⟨1, (), rfl, Or.inr rfl, ws_193, ty_194, hsm, htx, by rw [ht]; exact hP, va_K.moved hW.alike hK, hD, (⟨ts_220, te_221, cc_222, ra_223, rb_224, rc_225, rv_226, re_227, ya_228, by omega, by omega, by omega, by omega, er_233, et_234, ⟨k_235, c9_236, t_237, f_238, e_239, u_240⟩, ⟨k_241, c9_242, t_243, f_244, e_245, u_246⟩⟩ : RS ws_193 ty_194 rd krd tp ktp cd bb tl)⟩, hS.F ht⟩) hS.2.2 dX4_readOne_85
  refine lv_istore_n (lv' := [(2, .int 1), (0, .ref rd), (1, .int 5)]) hx hb dX4_readOne_9 rfl hl (by decide) rfl (fun ls hl => ?_)
  refine lv_iload_n hx hb dX4_readOne_10 rfl (lv_at hl 0 rfl) ?_
  refine lv_if_ne (tgt := 31) hx hb dX4_readOne_11 (by decide) (fun c_249 => ?_) (fun c_249 => absurd c_249 (by decide))
  refine lv_iload_n hx hb dX4_readOne_31 rfl (lv_at hl 2 rfl) ?_
  refine lv_bipush (v := 6) hx hb dX4_readOne_32 (by decide) ?_
  refine lv_icmp_lt (tgt := 50) hx hb dX4_readOne_34 (by decide) (fun c_250 => ?_) (fun c_250 => absurd (by decide) c_250)
  refine lv_aload_n hx hb dX4_readOne_50 rfl (lv_at hl 1 rfl) ?_
  refine va_get (D := D) (ci := 4) (v := .ref tp) (C := RX4) (T := TX4) (N := 8) hx hb hts hin4 hown hK hP krd e_35 rfl 0 (by decide) (hts (.fieldLink RX4 12 "HoneyHouse$RuleReader" "tape" "LHoneyHouse$Tape;") (List.mem_of_getElem? (i := 1) rfl)) (fun _ h9 => h9) rfl dX4_readOne_51 ?_
  have hFc := free_all hD hS hA
  refine va_callv (va_runV (As := []) (rest := []) ⟨hx, hb, hml, hown, hts⟩ (a_advance l D ws_30 ty_31 tp ktp tl te_2 ya_9 (nI ts_1) bb k_22 c9_23 t_24 f_41 H.size (by omega) (by omega) e_36 e_40 u_42) (cwV 0 hts gX4_readOne_X6_advance rfl rfl rfl (by decide +kernel) ⟨Nat.le_of_ble_eq_true rfl, Nat.le_of_ble_eq_true rfl⟩) ⟨fun a U g mk q => by obtain ⟨q0, q1, qP, qK, qD⟩ := q; exact ⟨q0, q1, qP, va_K.moved (u := U) (U := U.calling g mk a) (Vm.Alike.refl U.vm) qK, qD⟩, va_recv hK hP (ci := 6) (q0 := ktp) rfl e_36, fun U hU hW => ⟨rfl, by rw [hU], by rw [hU]; exact hP, va_K.moved hW.alike hK, hD.weaken (fun _ _ _ _ => trivial)⟩⟩ rfl rfl hl.1 rfl (lv_room (Nat.le_of_ble_eq_true rfl)) dX4_readOne_54 ⟨Nat.le_of_ble_eq_true rfl, Nat.le_of_ble_eq_true rfl⟩) hS (fun q _ h => hFc q h) hFc (fun u t H1 locs ht hvm w_252 hB hz1 hk1 hS => ?_)
  obtain ⟨ws_253, ty_254, hm_255, ht_257, hP1, hK1, hD1, hx_256⟩ := hB
  rw [ht] at hP1
  have hK := va_K.moved hvm.symm hK1
  have hD := hD1.weaken (fun _ _ _ h => hFc _ h)
  generalize H1 = H at hP1 hS ⊢
  have hP := hP1
  have e_258 := hm_255.objK e_35 (by decide)
  obtain ⟨g_260, e_259, h_261⟩ := hm_255.obj e_36
  obtain ⟨z_262, z_263, z_264, z_265, rfl⟩ := smX6 h_261
  obtain ⟨f_267, e_266⟩ := hm_255.arrI e_37
  have u_268 := ht_257 _ _ u_39
  obtain ⟨f_270, e_269⟩ := hm_255.arrI e_40
  have u_271 := ht_257 _ _ u_42
  have hsm := hsm.tr (hm_255.mono (by decide))
  have htx := htx.tr ht_257
  obtain ⟨k_272, s_273, e_274, h_275, h_276, h_277, e_278⟩ := hx_256
  refine lv_iload_n hx hb dX4_readOne_57 rfl (lv_at hl 0 rfl) ?_
  refine lv_if_ne (tgt := 86) hx hb dX4_readOne_58 (by decide) (fun c_279 => ?_) (fun c_279 => absurd c_279 (by decide))
  refine lv_aload_n hx hb dX4_readOne_86 rfl (lv_at hl 1 rfl) ?_
  refine lv_iload_n hx hb dX4_readOne_87 rfl (lv_at hl 2 rfl) ?_
  refine lv_iconst (v := 1) hx hb dX4_readOne_88 (by decide) ?_
  refine lv_iadd hx hb dX4_readOne_89 ?_
  refine tp_i (y := 6) (by decide) ?_
  have hFc := free_all hD hS hA
  refine va_calli (va_runV (As := [.int 6]) (rest := []) ⟨hx, hb, hml, hown, hts⟩ (r_readOne6 l D ws_253 ty_254 adK adV fo rd krd tp ktp cd bb tl  H.size (⟨s_273, e_274, cc_3, ra_4, rb_5, rc_6, rv_7, re_8, nI k_272, by omega, by omega, by omega, by omega, e_258, e_278, ⟨k_16, c9_17, t_18, f_267, e_266, u_268⟩, ⟨k_22, c9_23, t_24, f_270, e_269, u_271⟩⟩ : RS ws_253 ty_254 rd krd tp ktp cd bb tl)) (cwV 1 hts gX4_readOne_X4_readOne rfl rfl rfl (by decide +kernel) ⟨Nat.le_of_ble_eq_true rfl, Nat.le_of_ble_eq_true rfl⟩) ⟨fun a U g mk q => by obtain ⟨q0, q1, qP, qK, qD, qS⟩ := q; exact ⟨q0, q1, qP, va_K.moved (u := U) (U := U.calling g mk a) (Vm.Alike.refl U.vm) qK, qD, SZ.same rfl rfl qS⟩, va_recv hK hP (ci := 4) (q0 := krd) rfl e_258, fun U hU hW => ⟨rfl, by rw [hU], by rw [hU]; exact hP, va_K.moved hW.alike hK, hD.weaken (fun _ _ _ _ => trivial), hsz9.go hS hW hU hFc⟩⟩ rfl rfl hl.1 rfl (lv_room (Nat.le_of_ble_eq_true rfl)) dX4_readOne_90 ⟨Nat.le_of_ble_eq_true rfl, Nat.le_of_ble_eq_true rfl⟩) hS (fun q _ h => hFc q h) hFc (fun r_280 u t H1 locs ht hvm w_281 hB hz1 hk1 hS => ?_)
  obtain ⟨ws_282, ty_283, hm_284, ht_286, hP1, hK1, hD1, hx_285⟩ := hB
  rw [ht] at hP1
  have hK := va_K.moved hvm.symm hK1
  have hD := hD1.weaken (fun _ _ _ h => hFc _ h)
  generalize H1 = H at hP1 hS ⊢
  have hP := hP1
  obtain ⟨g_288, e_287, h_289⟩ := hm_284.obj e_258
  obtain ⟨z_290, z_291, z_292, z_293, z_294, z_295, rfl⟩ := smX4 h_289
  obtain ⟨g_297, e_296, h_298⟩ := hm_284.obj e_278
  obtain ⟨z_299, z_300, z_301, z_302, rfl⟩ := smX6 h_298
  obtain ⟨f_304, e_303⟩ := hm_284.arrI e_266
  have u_305 := ht_286 _ _ u_268
  obtain ⟨f_307, e_306⟩ := hm_284.arrI e_269
  have u_308 := ht_286 _ _ u_271
  have hsm := hsm.tr (hm_284.mono (by decide))
  have htx := htx.tr ht_286
  obtain ⟨ts_309, te_310, cc_311, ra_312, rb_313, rc_314, rv_315, re_316, ya_317, h1_318, h2_319, h3_320, h4_321, er_322, et_323, ⟨k_324, c9_325, t_326, f_327, e_328, u_329⟩, ⟨k_330, c9_331, t_332, f_333, e_334, u_335⟩⟩ := id hx_285
  refine lv_istore_n (lv' := [(3, .int r_280), (2, .int 1), (0, .ref rd), (1, .int 5)]) hx hb dX4_readOne_93 rfl hl (by decide) rfl (fun ls hl => ?_)
  refine lv_aload_n hx hb dX4_readOne_94 rfl (lv_at hl 2 rfl) ?_
  refine lv_iconst (v := (-1)) hx hb dX4_readOne_95 (by decide) ?_
  have hFc := free_all hD hS hA
  refine va_callv (va_runV (As := [.int (-1)]) (rest := []) ⟨hx, hb, hml, hown, hts⟩ (r_addCode l D ws_282 ty_283 adK adV fo rd krd tp ktp cd bb tl (-1) H.size (⟨ts_309, te_310, cc_311, ra_312, rb_313, rc_314, rv_315, re_316, ya_317, by omega, by omega, by omega, by omega, er_322, et_323, ⟨k_324, c9_325, t_326, f_327, e_328, u_329⟩, ⟨k_330, c9_331, t_332, f_333, e_334, u_335⟩⟩ : RS ws_282 ty_283 rd krd tp ktp cd bb tl)) (cwV 1 hts gX4_readOne_X4_addCode rfl rfl rfl (by decide +kernel) ⟨Nat.le_of_ble_eq_true rfl, Nat.le_of_ble_eq_true rfl⟩) ⟨fun a U g mk q => by obtain ⟨q0, q1, qP, qK, qD, qS⟩ := q; exact ⟨q0, q1, qP, va_K.moved (u := U) (U := U.calling g mk a) (Vm.Alike.refl U.vm) qK, qD, SZ.same rfl rfl qS⟩, va_recv hK hP (ci := 4) (q0 := krd) rfl er_322, fun U hU hW => ⟨rfl, by rw [hU], by rw [hU]; exact hP, va_K.moved hW.alike hK, hD.weaken (fun _ _ _ _ => trivial), hsz9.go hS hW hU hFc⟩⟩ rfl rfl hl.1 rfl (lv_room (Nat.le_of_ble_eq_true rfl)) dX4_readOne_96 ⟨Nat.le_of_ble_eq_true rfl, Nat.le_of_ble_eq_true rfl⟩) hS (fun q _ h => hFc q h) hFc (fun u t H1 locs ht hvm w_337 hB hz1 hk1 hS => ?_)
  obtain ⟨ws_338, ty_339, hm_340, ht_342, hP1, hK1, hD1, hx_341⟩ := hB
  rw [ht] at hP1
  have hK := va_K.moved hvm.symm hK1
  have hD := hD1.weaken (fun _ _ _ h => hFc _ h)
  generalize H1 = H at hP1 hS ⊢
  have hP := hP1
  obtain ⟨g_344, e_343, h_345⟩ := hm_340.obj er_322
  obtain ⟨z_346, z_347, z_348, z_349, z_350, z_351, rfl⟩ := smX4 h_345
  obtain ⟨g_353, e_352, h_354⟩ := hm_340.obj et_323
  obtain ⟨z_355, z_356, z_357, z_358, rfl⟩ := smX6 h_354
  obtain ⟨f_360, e_359⟩ := hm_340.arrI e_328
  have u_361 := ht_342 _ _ u_329
  obtain ⟨f_363, e_362⟩ := hm_340.arrI e_334
  have u_364 := ht_342 _ _ u_335
  have hsm := hsm.tr (hm_340.mono (by decide))
  have htx := htx.tr ht_342
  obtain ⟨ts_365, te_366, cc_367, ra_368, rb_369, rc_370, rv_371, re_372, ya_373, h1_374, h2_375, h3_376, h4_377, er_378, et_379, ⟨k_380, c9_381, t_382, f_383, e_384, u_385⟩, ⟨k_386, c9_387, t_388, f_389, e_390, u_391⟩⟩ := id hx_341
  refine lv_iload_n hx hb dX4_readOne_99 rfl (lv_at hl 0 rfl) ?_
  exact W.zret (v := r_280) hx hb hr (by rcases w_281 with h9 | h9 <;> rw [h9] <;> rfl) (fun t ht hW => ⟨⟨r_280, (), rfl, w_281, ws_338, ty_339, hsm, htx, by rw [ht]; exact hP, va_K.moved hW.alike hK, hD, (⟨ts_365, te_366, cc_367, ra_368, rb_369, rc_370, rv_371, re_372, ya_373, by omega, by omega, by omega, by omega, er_378, et_379, ⟨k_380, c9_381, t_382, f_383, e_384, u_385⟩, ⟨k_386, c9_387, t_388, f_389, e_390, u_391⟩⟩ : RS ws_338 ty_339 rd krd tp ktp cd bb tl)⟩, hS.F ht⟩) hS.2.2 dX4_readOne_100
set_option maxHeartbeats 4000000 in
set_option maxRecDepth 100000 in
theorem r_readEither5 (l : Launch) (D : va_G) (ws : va_W) (tys : List (ClassId × FieldType)) (adK adV : Nat → Nat) (fo : Option Nat) (rd krd tp ktp cd bb tl : Nat)  (sz : Nat) (R0 : RS ws tys rd krd tp ktp cd bb tl)  : Met l yX4_readEither wsX4_readEither ({ frames := 10, cells := 0, slots := 0, locals := 220 }) (va_Pc [.ref rd, .int 5] (fun U => U.heap.size = sz ∧ va_P D vwCl ws U.heap ∧ va_K D vwCl tys U ∧ va_D (fun _ => True) ws ∧ SZ adK adV fo (va_A ws sz) U U.heap)) (va_Qi (fun (r : Int32) (_ : Unit) => r = 0 ∨ r = 1) (fun (_ : Unit) (t : State) => ∃ (ws' : va_W) (tys' : List (ClassId × FieldType)), sm [4, 6] ws ws' ∧ tyx tys tys' ∧ va_P D vwCl ws' t.heap ∧ va_K D vwCl tys' t ∧ va_D (va_A ws sz) ws' ∧ RS ws' tys' rd krd tp ktp cd bb tl) (va_A ws sz)) 0 0 (va_A ws sz) := by
  refine Met.ofW (cc := cX4_readEither) (maxL := 6) (ret := (some .boolean)) (by decide) rfl ?_
  intro p e s m args below meth c s₁ B hml hv
  obtain ⟨rfl, hsz, hP, hK, hD0, hsz9⟩ := hv
  have hx := B.exec
  have hb := B.bytes
  have hr := B.returns
  have hts := atoms_spec (ws := wsX4_readEither) B.pre
  have hown : s.vm.findClass RX4 = some m.cls := findClass_of_methodNamed B.named
  have hlocks := B.notSynchronized
  subst hsz
  have hD := hD0.self (sz := s.heap.size)
  generalize hAe : va_A ws s.heap.size = A at hD hsz9 ⊢
  have hA : ∀ q : Nat, s.heap.size ≤ q → A q := fun q h => by rw [← hAe]; exact Or.inr h
  have hS : va_S A s.heap s.heap [] := va_S.rf
  have hsm : sm [4, 6] ws ws := sm.rf ws
  have htx : tyx tys tys := tyx.rf tys
  have hin4 : ∀ w ∈ u_ws RX4 TX4 8, w ∈ wsX4_readEither := (fun _ h9 => List.mem_cons_of_mem _ (List.mem_append_left _ ((List.mem_append_right _ h9))))
  have hl := lv_entry ([.ref rd, .int 5]) (n := 6) (Nat.le_of_ble_eq_true rfl)
  rw [lg_entry_eq]
  generalize (lg_sl ([.ref rd, .int 5]) ++ List.replicate (6 - (lg_sl ([.ref rd, .int 5])).length) Slot.unset).toArray = ls at hl ⊢
  have hl : lv_has ls 6 [(0, .ref rd), (1, .int 5)] := hl
  obtain ⟨ts_1, te_2, cc_3, ra_4, rb_5, rc_6, rv_7, re_8, ya_9, h1_10, h2_11, h3_12, h4_13, er_14, et_15, ⟨k_16, c9_17, t_18, f_19, e_20, u_21⟩, ⟨k_22, c9_23, t_24, f_25, e_26, u_27⟩⟩ := id R0
  refine lv_aload_n hx hb dX4_readEither_0 rfl (lv_at hl 0 rfl) ?_
  refine lv_iload_n hx hb dX4_readEither_1 rfl (lv_at hl 1 rfl) ?_
  have hFc := free_all hD hS hA
  refine va_calli (va_runV (As := [.int 5]) (rest := []) ⟨hx, hb, hml, hown, hts⟩ (r_readOne5 l D ws tys adK adV fo rd krd tp ktp cd bb tl  s.heap.size (⟨ts_1, te_2, cc_3, ra_4, rb_5, rc_6, rv_7, re_8, ya_9, by omega, by omega, by omega, by omega, er_14, et_15, ⟨k_16, c9_17, t_18, f_19, e_20, u_21⟩, ⟨k_22, c9_23, t_24, f_25, e_26, u_27⟩⟩ : RS ws tys rd krd tp ktp cd bb tl)) (cwV 1 hts gX4_readEither_X4_readOne rfl rfl rfl (by decide +kernel) ⟨Nat.le_of_ble_eq_true rfl, Nat.le_of_ble_eq_true rfl⟩) ⟨fun a U g mk q => by obtain ⟨q0, q1, qP, qK, qD, qS⟩ := q; exact ⟨q0, q1, qP, va_K.moved (u := U) (U := U.calling g mk a) (Vm.Alike.refl U.vm) qK, qD, SZ.same rfl rfl qS⟩, va_recv hK hP (ci := 4) (q0 := krd) rfl er_14, fun U hU hW => ⟨rfl, by rw [hU], by rw [hU]; exact hP, va_K.moved hW.alike hK, hD.weaken (fun _ _ _ _ => trivial), hsz9.go hS hW hU hFc⟩⟩ rfl rfl hl.1 rfl (lv_room (Nat.le_of_ble_eq_true rfl)) dX4_readEither_2 ⟨Nat.le_of_ble_eq_true rfl, Nat.le_of_ble_eq_true rfl⟩) hS (fun q _ h => hFc q h) hFc (fun r_28 u t H1 locs ht hvm w_29 hB hz1 hk1 hS => ?_)
  obtain ⟨ws_30, ty_31, hm_32, ht_34, hP1, hK1, hD1, hx_33⟩ := hB
  rw [ht] at hP1
  have hK := va_K.moved hvm.symm hK1
  have hD := hD1.weaken (fun _ _ _ h => hFc _ h)
  generalize H1 = H at hP1 hS ⊢
  have hP := hP1
  obtain ⟨g_36, e_35, h_37⟩ := hm_32.obj er_14
  obtain ⟨z_38, z_39, z_40, z_41, z_42, z_43, rfl⟩ := smX4 h_37
  obtain ⟨g_45, e_44, h_46⟩ := hm_32.obj et_15
  obtain ⟨z_47, z_48, z_49, z_50, rfl⟩ := smX6 h_46
  obtain ⟨f_52, e_51⟩ := hm_32.arrI e_20
  have u_53 := ht_34 _ _ u_21
  obtain ⟨f_55, e_54⟩ := hm_32.arrI e_26
  have u_56 := ht_34 _ _ u_27
  have hsm := hsm.tr (hm_32.mono (by decide))
  have htx := htx.tr ht_34
  obtain ⟨ts_57, te_58, cc_59, ra_60, rb_61, rc_62, rv_63, re_64, ya_65, h1_66, h2_67, h3_68, h4_69, er_70, et_71, ⟨k_72, c9_73, t_74, f_75, e_76, u_77⟩, ⟨k_78, c9_79, t_80, f_81, e_82, u_83⟩⟩ := id hx_33
  refine lv_istore_n (lv' := [(2, .int r_28), (0, .ref rd), (1, .int 5)]) hx hb dX4_readEither_5 rfl hl (by decide) rfl (fun ls hl => ?_)
  refine lv_iconst (v := 0) hx hb dX4_readEither_6 (by decide) ?_
  refine lv_istore_n (lv' := [(3, .int 0), (2, .int r_28), (0, .ref rd), (1, .int 5)]) hx hb dX4_readEither_7 rfl hl (by decide) rfl (fun ls hl => ?_)
  refine lv_iconst (v := 0) hx hb dX4_readEither_8 (by decide) ?_
  refine lv_istore (lv' := [(4, .int 0), (3, .int 0), (2, .int r_28), (0, .ref rd), (1, .int 5)]) hx hb dX4_readEither_9 hl (by decide) rfl (fun ls hl => ?_)
  refine lp_V (nL := 6) (σ := Nat × Int32 × Int32) (lv := fun x9 => [(4, .int (nI x9.1)), (2, .int x9.2.1), (3, .int x9.2.2), (1, .int 5), (0, .ref rd)]) (μ := fun x9 => 400 - x9.1) (J := fun x9 ws9 => sm [4, 6] ws_30 ws9 ∧ (RS ws9 ty_31 rd krd tp ktp cd bb tl) ∧ (x9.1 ≤ 400) ∧ (x9.2.1 = 0 ∨ x9.2.1 = 1) ∧ (x9.2.2 = 0 ∨ x9.2.2 = 1)) (fun x9 ws_91 H locs ls hj hP hD hS hl ih_84 => ?_) (0, r_28, 0) ws_30 _ _ ls ⟨sm.rf _, (⟨ts_57, te_58, cc_59, ra_60, rb_61, rc_62, rv_63, re_64, ya_65, by omega, by omega, by omega, by omega, er_70, et_71, ⟨k_72, c9_73, t_74, f_75, e_76, u_77⟩, ⟨k_78, c9_79, t_80, f_81, e_82, u_83⟩⟩ : RS ws_30 ty_31 rd krd tp ktp cd bb tl), (show 0 ≤ 400 from by omega), (show r_28 = 0 ∨ r_28 = 1 from w_29), (show 0 = 0 ∨ 0 = 1 from Or.inl rfl)⟩ hP hD hS (lv_sub hl [0, 2, 1, 4, 3] rfl)
  obtain ⟨i_85, x_86, y_87⟩ := x9
  have hj : sm [4, 6] ws_30 ws_91 ∧ (RS ws_91 ty_31 rd krd tp ktp cd bb tl) ∧ (i_85 ≤ 400) ∧ (x_86 = 0 ∨ x_86 = 1) ∧ (y_87 = 0 ∨ y_87 = 1) := hj
  obtain ⟨hm_92, hR_94, hi_88, hbx_89, hby_90⟩ := hj
  obtain ⟨g_96, e_95, h_97⟩ := hm_92.obj er_70
  obtain ⟨z_98, z_99, z_100, z_101, z_102, z_103, rfl⟩ := smX4 h_97
  obtain ⟨g_105, e_104, h_106⟩ := hm_92.obj et_71
  obtain ⟨z_107, z_108, z_109, z_110, rfl⟩ := smX6 h_106
  obtain ⟨f_112, e_111⟩ := hm_92.arrI e_76
  obtain ⟨f_114, e_113⟩ := hm_92.arrI e_82
  have hsm := hsm.tr (hm_92.mono (by decide))
  obtain ⟨ts_115, te_116, cc_117, ra_118, rb_119, rc_120, rv_121, re_122, ya_123, h1_124, h2_125, h3_126, h4_127, er_128, et_129, ⟨k_130, c9_131, t_132, f_133, e_134, u_135⟩, ⟨k_136, c9_137, t_138, f_139, e_140, u_141⟩⟩ := id hR_94
  have hlp_93 := hm_92
  have hl : lv_has ls 6 [(4, .int (nI i_85)), (2, .int x_86), (3, .int y_87), (1, .int 5), (0, .ref rd)] := hl
  refine lv_iload hx hb dX4_readEither_11 (lv_at hl 0 rfl) ?_
  refine lv_sipush (v := 400) hx hb dX4_readEither_13 (by decide) ?_
  refine lv_icmp_ge (tgt := 101) hx hb dX4_readEither_16 (by decide) (fun c_142 => ?_) (fun c_142 => ?_)
  · have d_143 := n_le (a := 400) (b := i_85) (by omega) (by omega) c_142
    refine lv_iload_n hx hb dX4_readEither_101 rfl (lv_at hl 2 rfl) ?_
    refine lv_if_eq (tgt := 111) hx hb dX4_readEither_102 (by decide) (fun c_144 => ?_) (fun c_144 => ?_)
    · refine lv_iload_n hx hb dX4_readEither_111 rfl (lv_at hl 1 rfl) ?_
      exact W.zret (v := x_86) hx hb hr (by rcases hbx_89 with h9 | h9 <;> rw [h9] <;> rfl) (fun t ht hW => ⟨⟨x_86, (), rfl, hbx_89, ws_91, ty_31, hsm, htx, by rw [ht]; exact hP, va_K.moved hW.alike hK, hD, (⟨ts_115, te_116, cc_117, ra_118, rb_119, rc_120, rv_121, re_122, ya_123, by omega, by omega, by omega, by omega, er_128, et_129, ⟨k_130, c9_131, t_132, f_133, e_134, u_135⟩, ⟨k_136, c9_137, t_138, f_139, e_140, u_141⟩⟩ : RS ws_91 ty_31 rd krd tp ktp cd bb tl)⟩, hS.F ht⟩) hS.2.2 dX4_readEither_112
    refine lv_aload_n hx hb dX4_readEither_105 rfl (lv_at hl 4 rfl) ?_
    refine lv_bipush (v := (-3)) hx hb dX4_readEither_106 (by decide) ?_
    have hFc := free_all hD hS hA
    refine va_callv (va_runV (As := [.int (-3)]) (rest := []) ⟨hx, hb, hml, hown, hts⟩ (r_addCode l D ws_91 ty_31 adK adV fo rd krd tp ktp cd bb tl (-3) H.size (⟨ts_115, te_116, cc_117, ra_118, rb_119, rc_120, rv_121, re_122, ya_123, by omega, by omega, by omega, by omega, er_128, et_129, ⟨k_130, c9_131, t_132, f_133, e_134, u_135⟩, ⟨k_136, c9_137, t_138, f_139, e_140, u_141⟩⟩ : RS ws_91 ty_31 rd krd tp ktp cd bb tl)) (cwV 1 hts gX4_readEither_X4_addCode rfl rfl rfl (by decide +kernel) ⟨Nat.le_of_ble_eq_true rfl, Nat.le_of_ble_eq_true rfl⟩) ⟨fun a U g mk q => by obtain ⟨q0, q1, qP, qK, qD, qS⟩ := q; exact ⟨q0, q1, qP, va_K.moved (u := U) (U := U.calling g mk a) (Vm.Alike.refl U.vm) qK, qD, SZ.same rfl rfl qS⟩, va_recv hK hP (ci := 4) (q0 := krd) rfl er_128, fun U hU hW => ⟨rfl, by rw [hU], by rw [hU]; exact hP, va_K.moved hW.alike hK, hD.weaken (fun _ _ _ _ => trivial), hsz9.go hS hW hU hFc⟩⟩ rfl rfl hl.1 rfl (lv_room (Nat.le_of_ble_eq_true rfl)) dX4_readEither_108 ⟨Nat.le_of_ble_eq_true rfl, Nat.le_of_ble_eq_true rfl⟩) hS (fun q _ h => hFc q h) hFc (fun u t H1 locs ht hvm w_146 hB hz1 hk1 hS => ?_)
    obtain ⟨ws_147, ty_148, hm_149, ht_151, hP1, hK1, hD1, hx_150⟩ := hB
    rw [ht] at hP1
    have hK := va_K.moved hvm.symm hK1
    have hD := hD1.weaken (fun _ _ _ h => hFc _ h)
    generalize H1 = H at hP1 hS ⊢
    have hP := hP1
    obtain ⟨g_153, e_152, h_154⟩ := hm_149.obj er_128
    obtain ⟨z_155, z_156, z_157, z_158, z_159, z_160, rfl⟩ := smX4 h_154
    obtain ⟨g_162, e_161, h_163⟩ := hm_149.obj et_129
    obtain ⟨z_164, z_165, z_166, z_167, rfl⟩ := smX6 h_163
    obtain ⟨f_169, e_168⟩ := hm_149.arrI e_134
    have u_170 := ht_151 _ _ u_135
    obtain ⟨f_172, e_171⟩ := hm_149.arrI e_140
    have u_173 := ht_151 _ _ u_141
    have hsm := hsm.tr (hm_149.mono (by decide))
    have hlp_93 := hlp_93.tr (hm_149.mono (by decide))
    have htx := htx.tr ht_151
    obtain ⟨ts_174, te_175, cc_176, ra_177, rb_178, rc_179, rv_180, re_181, ya_182, h1_183, h2_184, h3_185, h4_186, er_187, et_188, ⟨k_189, c9_190, t_191, f_192, e_193, u_194⟩, ⟨k_195, c9_196, t_197, f_198, e_199, u_200⟩⟩ := id hx_150
    refine lv_iload_n hx hb dX4_readEither_111 rfl (lv_at hl 1 rfl) ?_
    exact W.zret (v := x_86) hx hb hr (by rcases hbx_89 with h9 | h9 <;> rw [h9] <;> rfl) (fun t ht hW => ⟨⟨x_86, (), rfl, hbx_89, ws_147, ty_148, hsm, htx, by rw [ht]; exact hP, va_K.moved hW.alike hK, hD, (⟨ts_174, te_175, cc_176, ra_177, rb_178, rc_179, rv_180, re_181, ya_182, by omega, by omega, by omega, by omega, er_187, et_188, ⟨k_189, c9_190, t_191, f_192, e_193, u_194⟩, ⟨k_195, c9_196, t_197, f_198, e_199, u_200⟩⟩ : RS ws_147 ty_148 rd krd tp ktp cd bb tl)⟩, hS.F ht⟩) hS.2.2 dX4_readEither_112
  have d_201 := n_nle (a := 400) (b := i_85) (by omega) (by omega) c_142
  refine lv_iload_n hx hb dX4_readEither_19 rfl (lv_at hl 1 rfl) ?_
  refine lv_if_eq (tgt := 101) hx hb dX4_readEither_20 (by decide) (fun c_202 => ?_) (fun c_202 => ?_)
  · refine lv_iload_n hx hb dX4_readEither_101 rfl (lv_at hl 2 rfl) ?_
    refine lv_if_eq (tgt := 111) hx hb dX4_readEither_102 (by decide) (fun c_203 => ?_) (fun c_203 => ?_)
    · refine lv_iload_n hx hb dX4_readEither_111 rfl (lv_at hl 1 rfl) ?_
      exact W.zret (v := x_86) hx hb hr (by rcases hbx_89 with h9 | h9 <;> rw [h9] <;> rfl) (fun t ht hW => ⟨⟨x_86, (), rfl, hbx_89, ws_91, ty_31, hsm, htx, by rw [ht]; exact hP, va_K.moved hW.alike hK, hD, (⟨ts_115, te_116, cc_117, ra_118, rb_119, rc_120, rv_121, re_122, ya_123, by omega, by omega, by omega, by omega, er_128, et_129, ⟨k_130, c9_131, t_132, f_133, e_134, u_135⟩, ⟨k_136, c9_137, t_138, f_139, e_140, u_141⟩⟩ : RS ws_91 ty_31 rd krd tp ktp cd bb tl)⟩, hS.F ht⟩) hS.2.2 dX4_readEither_112
    refine lv_aload_n hx hb dX4_readEither_105 rfl (lv_at hl 4 rfl) ?_
    refine lv_bipush (v := (-3)) hx hb dX4_readEither_106 (by decide) ?_
    have hFc := free_all hD hS hA
    refine va_callv (va_runV (As := [.int (-3)]) (rest := []) ⟨hx, hb, hml, hown, hts⟩ (r_addCode l D ws_91 ty_31 adK adV fo rd krd tp ktp cd bb tl (-3) H.size (⟨ts_115, te_116, cc_117, ra_118, rb_119, rc_120, rv_121, re_122, ya_123, by omega, by omega, by omega, by omega, er_128, et_129, ⟨k_130, c9_131, t_132, f_133, e_134, u_135⟩, ⟨k_136, c9_137, t_138, f_139, e_140, u_141⟩⟩ : RS ws_91 ty_31 rd krd tp ktp cd bb tl)) (cwV 1 hts gX4_readEither_X4_addCode rfl rfl rfl (by decide +kernel) ⟨Nat.le_of_ble_eq_true rfl, Nat.le_of_ble_eq_true rfl⟩) ⟨fun a U g mk q => by obtain ⟨q0, q1, qP, qK, qD, qS⟩ := q; exact ⟨q0, q1, qP, va_K.moved (u := U) (U := U.calling g mk a) (Vm.Alike.refl U.vm) qK, qD, SZ.same rfl rfl qS⟩, va_recv hK hP (ci := 4) (q0 := krd) rfl er_128, fun U hU hW => ⟨rfl, by rw [hU], by rw [hU]; exact hP, va_K.moved hW.alike hK, hD.weaken (fun _ _ _ _ => trivial), hsz9.go hS hW hU hFc⟩⟩ rfl rfl hl.1 rfl (lv_room (Nat.le_of_ble_eq_true rfl)) dX4_readEither_108 ⟨Nat.le_of_ble_eq_true rfl, Nat.le_of_ble_eq_true rfl⟩) hS (fun q _ h => hFc q h) hFc (fun u t H1 locs ht hvm w_205 hB hz1 hk1 hS => ?_)
    obtain ⟨ws_206, ty_207, hm_208, ht_210, hP1, hK1, hD1, hx_209⟩ := hB
    rw [ht] at hP1
    have hK := va_K.moved hvm.symm hK1
    have hD := hD1.weaken (fun _ _ _ h => hFc _ h)
    generalize H1 = H at hP1 hS ⊢
    have hP := hP1
    obtain ⟨g_212, e_211, h_213⟩ := hm_208.obj er_128
    obtain ⟨z_214, z_215, z_216, z_217, z_218, z_219, rfl⟩ := smX4 h_213
    obtain ⟨g_221, e_220, h_222⟩ := hm_208.obj et_129
    obtain ⟨z_223, z_224, z_225, z_226, rfl⟩ := smX6 h_222
    obtain ⟨f_228, e_227⟩ := hm_208.arrI e_134
    have u_229 := ht_210 _ _ u_135
    obtain ⟨f_231, e_230⟩ := hm_208.arrI e_140
    have u_232 := ht_210 _ _ u_141
    have hsm := hsm.tr (hm_208.mono (by decide))
    have hlp_93 := hlp_93.tr (hm_208.mono (by decide))
    have htx := htx.tr ht_210
    obtain ⟨ts_233, te_234, cc_235, ra_236, rb_237, rc_238, rv_239, re_240, ya_241, h1_242, h2_243, h3_244, h4_245, er_246, et_247, ⟨k_248, c9_249, t_250, f_251, e_252, u_253⟩, ⟨k_254, c9_255, t_256, f_257, e_258, u_259⟩⟩ := id hx_209
    refine lv_iload_n hx hb dX4_readEither_111 rfl (lv_at hl 1 rfl) ?_
    exact W.zret (v := x_86) hx hb hr (by rcases hbx_89 with h9 | h9 <;> rw [h9] <;> rfl) (fun t ht hW => ⟨⟨x_86, (), rfl, hbx_89, ws_206, ty_207, hsm, htx, by rw [ht]; exact hP, va_K.moved hW.alike hK, hD, (⟨ts_233, te_234, cc_235, ra_236, rb_237, rc_238, rv_239, re_240, ya_241, by omega, by omega, by omega, by omega, er_246, et_247, ⟨k_248, c9_249, t_250, f_251, e_252, u_253⟩, ⟨k_254, c9_255, t_256, f_257, e_258, u_259⟩⟩ : RS ws_206 ty_207 rd krd tp ktp cd bb tl)⟩, hS.F ht⟩) hS.2.2 dX4_readEither_112
  refine lv_aload_n hx hb dX4_readEither_23 rfl (lv_at hl 4 rfl) ?_
  have hFc := free_all hD hS hA
  refine va_calli (va_runV (As := []) (rest := []) ⟨hx, hb, hml, hown, hts⟩ (r_isAndOr l D ws_91 ty_31 adK adV fo rd krd tp ktp cd bb tl  H.size (⟨ts_115, te_116, cc_117, ra_118, rb_119, rc_120, rv_121, re_122, ya_123, by omega, by omega, by omega, by omega, er_128, et_129, ⟨k_130, c9_131, t_132, f_133, e_134, u_135⟩, ⟨k_136, c9_137, t_138, f_139, e_140, u_141⟩⟩ : RS ws_91 ty_31 rd krd tp ktp cd bb tl)) (cwV 0 hts gX4_readEither_X4_isAndOr rfl rfl rfl (by decide +kernel) ⟨Nat.le_of_ble_eq_true rfl, Nat.le_of_ble_eq_true rfl⟩) ⟨fun a U g mk q => by obtain ⟨q0, q1, qP, qK, qD, qS⟩ := q; exact ⟨q0, q1, qP, va_K.moved (u := U) (U := U.calling g mk a) (Vm.Alike.refl U.vm) qK, qD, SZ.same rfl rfl qS⟩, va_recv hK hP (ci := 4) (q0 := krd) rfl er_128, fun U hU hW => ⟨rfl, by rw [hU], by rw [hU]; exact hP, va_K.moved hW.alike hK, hD.weaken (fun _ _ _ _ => trivial), hsz9.go hS hW hU hFc⟩⟩ rfl rfl hl.1 rfl (lv_room (Nat.le_of_ble_eq_true rfl)) dX4_readEither_24 ⟨Nat.le_of_ble_eq_true rfl, Nat.le_of_ble_eq_true rfl⟩) hS (fun q _ h => hFc q h) hFc (fun r_260 u t H1 locs ht hvm w_261 hB hz1 hk1 hS => ?_)
  obtain ⟨ws_262, ty_263, hm_264, ht_266, hP1, hK1, hD1, hx_265⟩ := hB
  rw [ht] at hP1
  have hK := va_K.moved hvm.symm hK1
  have hD := hD1.weaken (fun _ _ _ h => hFc _ h)
  generalize H1 = H at hP1 hS ⊢
  have hP := hP1
  have e_267 := hm_264.objK er_128 (by decide)
  have e_268 := hm_264.objK et_129 (by decide)
  obtain ⟨f_270, e_269⟩ := hm_264.arrI e_134
  have u_271 := ht_266 _ _ u_135
  obtain ⟨f_273, e_272⟩ := hm_264.arrI e_140
  have u_274 := ht_266 _ _ u_141
  have hsm := hsm.tr (hm_264.mono (by decide))
  have hlp_93 := hlp_93.tr (hm_264.mono (by decide))
  have htx := htx.tr ht_266
  rcases w_261 with rfl | rfl
  · refine lv_if_eq (tgt := 101) hx hb dX4_readEither_27 (by decide) (fun c_275 => ?_) (fun c_275 => absurd (by decide) c_275)
    refine lv_iload_n hx hb dX4_readEither_101 rfl (lv_at hl 2 rfl) ?_
    refine lv_if_eq (tgt := 111) hx hb dX4_readEither_102 (by decide) (fun c_276 => ?_) (fun c_276 => ?_)
    · refine lv_iload_n hx hb dX4_readEither_111 rfl (lv_at hl 1 rfl) ?_
      exact W.zret (v := x_86) hx hb hr (by rcases hbx_89 with h9 | h9 <;> rw [h9] <;> rfl) (fun t ht hW => ⟨⟨x_86, (), rfl, hbx_89, ws_262, ty_263, hsm, htx, by rw [ht]; exact hP, va_K.moved hW.alike hK, hD, (⟨ts_115, te_116, cc_117, ra_118, rb_119, rc_120, rv_121, re_122, ya_123, by omega, by omega, by omega, by omega, e_267, e_268, ⟨k_130, c9_131, t_132, f_270, e_269, u_271⟩, ⟨k_136, c9_137, t_138, f_273, e_272, u_274⟩⟩ : RS ws_262 ty_263 rd krd tp ktp cd bb tl)⟩, hS.F ht⟩) hS.2.2 dX4_readEither_112
    refine lv_aload_n hx hb dX4_readEither_105 rfl (lv_at hl 4 rfl) ?_
    refine lv_bipush (v := (-3)) hx hb dX4_readEither_106 (by decide) ?_
    have hFc := free_all hD hS hA
    refine va_callv (va_runV (As := [.int (-3)]) (rest := []) ⟨hx, hb, hml, hown, hts⟩ (r_addCode l D ws_262 ty_263 adK adV fo rd krd tp ktp cd bb tl (-3) H.size (⟨ts_115, te_116, cc_117, ra_118, rb_119, rc_120, rv_121, re_122, ya_123, by omega, by omega, by omega, by omega, e_267, e_268, ⟨k_130, c9_131, t_132, f_270, e_269, u_271⟩, ⟨k_136, c9_137, t_138, f_273, e_272, u_274⟩⟩ : RS ws_262 ty_263 rd krd tp ktp cd bb tl)) (cwV 1 hts gX4_readEither_X4_addCode rfl rfl rfl (by decide +kernel) ⟨Nat.le_of_ble_eq_true rfl, Nat.le_of_ble_eq_true rfl⟩) ⟨fun a U g mk q => by obtain ⟨q0, q1, qP, qK, qD, qS⟩ := q; exact ⟨q0, q1, qP, va_K.moved (u := U) (U := U.calling g mk a) (Vm.Alike.refl U.vm) qK, qD, SZ.same rfl rfl qS⟩, va_recv hK hP (ci := 4) (q0 := krd) rfl e_267, fun U hU hW => ⟨rfl, by rw [hU], by rw [hU]; exact hP, va_K.moved hW.alike hK, hD.weaken (fun _ _ _ _ => trivial), hsz9.go hS hW hU hFc⟩⟩ rfl rfl hl.1 rfl (lv_room (Nat.le_of_ble_eq_true rfl)) dX4_readEither_108 ⟨Nat.le_of_ble_eq_true rfl, Nat.le_of_ble_eq_true rfl⟩) hS (fun q _ h => hFc q h) hFc (fun u t H1 locs ht hvm w_278 hB hz1 hk1 hS => ?_)
    obtain ⟨ws_279, ty_280, hm_281, ht_283, hP1, hK1, hD1, hx_282⟩ := hB
    rw [ht] at hP1
    have hK := va_K.moved hvm.symm hK1
    have hD := hD1.weaken (fun _ _ _ h => hFc _ h)
    generalize H1 = H at hP1 hS ⊢
    have hP := hP1
    obtain ⟨g_285, e_284, h_286⟩ := hm_281.obj e_267
    obtain ⟨z_287, z_288, z_289, z_290, z_291, z_292, rfl⟩ := smX4 h_286
    obtain ⟨g_294, e_293, h_295⟩ := hm_281.obj e_268
    obtain ⟨z_296, z_297, z_298, z_299, rfl⟩ := smX6 h_295
    obtain ⟨f_301, e_300⟩ := hm_281.arrI e_269
    have u_302 := ht_283 _ _ u_271
    obtain ⟨f_304, e_303⟩ := hm_281.arrI e_272
    have u_305 := ht_283 _ _ u_274
    have hsm := hsm.tr (hm_281.mono (by decide))
    have hlp_93 := hlp_93.tr (hm_281.mono (by decide))
    have htx := htx.tr ht_283
    obtain ⟨ts_306, te_307, cc_308, ra_309, rb_310, rc_311, rv_312, re_313, ya_314, h1_315, h2_316, h3_317, h4_318, er_319, et_320, ⟨k_321, c9_322, t_323, f_324, e_325, u_326⟩, ⟨k_327, c9_328, t_329, f_330, e_331, u_332⟩⟩ := id hx_282
    refine lv_iload_n hx hb dX4_readEither_111 rfl (lv_at hl 1 rfl) ?_
    exact W.zret (v := x_86) hx hb hr (by rcases hbx_89 with h9 | h9 <;> rw [h9] <;> rfl) (fun t ht hW => ⟨⟨x_86, (), rfl, hbx_89, ws_279, ty_280, hsm, htx, by rw [ht]; exact hP, va_K.moved hW.alike hK, hD, (⟨ts_306, te_307, cc_308, ra_309, rb_310, rc_311, rv_312, re_313, ya_314, by omega, by omega, by omega, by omega, er_319, et_320, ⟨k_321, c9_322, t_323, f_324, e_325, u_326⟩, ⟨k_327, c9_328, t_329, f_330, e_331, u_332⟩⟩ : RS ws_279 ty_280 rd krd tp ktp cd bb tl)⟩, hS.F ht⟩) hS.2.2 dX4_readEither_112
  refine lv_if_eq (tgt := 101) hx hb dX4_readEither_27 (by decide) (fun c_333 => absurd c_333 (by decide)) (fun c_333 => ?_)
  refine lv_aload_n hx hb dX4_readEither_30 rfl (lv_at hl 4 rfl) ?_
  refine va_get (D := D) (ci := 4) (v := .ref tp) (C := RX4) (T := TX4) (N := 8) hx hb hts hin4 hown hK hP krd e_267 rfl 0 (by decide) (hts (.fieldLink RX4 12 "HoneyHouse$RuleReader" "tape" "LHoneyHouse$Tape;") (List.mem_of_getElem? (i := 1) rfl)) (fun _ h9 => h9) rfl dX4_readEither_31 ?_
  refine va_ldcS hx hb hown hsz9.2.2.2.2.2.1 dX4_readEither_34 ?_
  have hFc := free_all hD hS hA
  refine va_calli (va_runV (As := [.ref (adK 2)]) (rest := []) ⟨hx, hb, hml, hown, hts⟩ (a_isWord l D ws_262 ty_263 adK adV fo 2 tp ktp tl ya_123 (nI ts_115) (nI te_116) bb k_136 c9_137 t_138 f_273 H.size (by decide) e_268 e_272 u_274) (cwV 1 hts gX4_readEither_X6_isWord rfl rfl rfl (by decide +kernel) ⟨Nat.le_of_ble_eq_true rfl, Nat.le_of_ble_eq_true rfl⟩) ⟨fun a U g mk q => by obtain ⟨q0, q1, qP, qK, qD, qS⟩ := q; exact ⟨q0, q1, qP, va_K.moved (u := U) (U := U.calling g mk a) (Vm.Alike.refl U.vm) qK, qD, SZ.same rfl rfl qS⟩, va_recv hK hP (ci := 6) (q0 := ktp) rfl e_268, fun U hU hW => ⟨rfl, by rw [hU], by rw [hU]; exact hP, va_K.moved hW.alike hK, hD.weaken (fun _ _ _ _ => trivial), hsz9.go hS hW hU hFc⟩⟩ rfl rfl hl.1 rfl (lv_room (Nat.le_of_ble_eq_true rfl)) dX4_readEither_36 ⟨Nat.le_of_ble_eq_true rfl, Nat.le_of_ble_eq_true rfl⟩) hS (fun q _ h => hFc q h) hFc (fun r_334 u t H1 locs ht hvm w_335 hB hz1 hk1 hS => ?_)
  obtain ⟨ws_336, ty_337, hm_338, ht_340, hP1, hK1, hD1, hx_339⟩ := hB
  rw [ht] at hP1
  have hK := va_K.moved hvm.symm hK1
  have hD := hD1.weaken (fun _ _ _ h => hFc _ h)
  generalize H1 = H at hP1 hS ⊢
  have hP := hP1
  have e_341 := hm_338.objK e_267 (by decide)
  have e_342 := hm_338.objK e_268 (by decide)
  obtain ⟨f_344, e_343⟩ := hm_338.arrI e_269
  have u_345 := ht_340 _ _ u_271
  obtain ⟨f_347, e_346⟩ := hm_338.arrI e_272
  have u_348 := ht_340 _ _ u_274
  have hsm := hsm.tr (hm_338.mono (by decide))
  have hlp_93 := hlp_93.tr (hm_338.mono (by decide))
  have htx := htx.tr ht_340
  rcases w_335 with rfl | rfl
  · refine lv_istore (lv' := [(5, .int 0), (4, .int (nI i_85)), (2, .int x_86), (3, .int y_87), (1, .int 5), (0, .ref rd)]) hx hb dX4_readEither_39 hl (by decide) rfl (fun ls hl => ?_)
    refine lv_iload hx hb dX4_readEither_41 (lv_at hl 0 rfl) ?_
    refine lv_if_ne (tgt := 56) hx hb dX4_readEither_43 (by decide) (fun c_349 => absurd (by decide) c_349) (fun c_349 => ?_)
    refine lv_iload_n hx hb dX4_readEither_46 rfl (lv_at hl 3 rfl) ?_
    refine lv_if_eq (tgt := 56) hx hb dX4_readEither_47 (by decide) (fun c_350 => ?_) (fun c_350 => ?_)
    · refine lv_iload_n hx hb dX4_readEither_56 rfl (lv_at hl 3 rfl) ?_
      refine lv_if_ne (tgt := 65) hx hb dX4_readEither_57 (by decide) (fun c_351 => ?_) (fun c_351 => ?_)
      · refine lv_iconst (v := 1) hx hb dX4_readEither_65 (by decide) ?_
        refine lv_goto (tgt := 70) hx hb dX4_readEither_66 (by decide) ?_
        refine lv_istore_n (lv' := [(3, .int 1), (5, .int 0), (4, .int (nI i_85)), (2, .int x_86), (1, .int 5), (0, .ref rd)]) hx hb dX4_readEither_70 rfl hl (by decide) rfl (fun ls hl => ?_)
        refine lv_aload_n hx hb dX4_readEither_71 rfl (lv_at hl 5 rfl) ?_
        refine va_get (D := D) (ci := 4) (v := .ref tp) (C := RX4) (T := TX4) (N := 8) hx hb hts hin4 hown hK hP krd e_341 rfl 0 (by decide) (hts (.fieldLink RX4 12 "HoneyHouse$RuleReader" "tape" "LHoneyHouse$Tape;") (List.mem_of_getElem? (i := 1) rfl)) (fun _ h9 => h9) rfl dX4_readEither_72 ?_
        have hFc := free_all hD hS hA
        refine va_callv (va_runV (As := []) (rest := []) ⟨hx, hb, hml, hown, hts⟩ (a_advance l D ws_336 ty_337 tp ktp tl te_116 ya_123 (nI ts_115) bb k_136 c9_137 t_138 f_347 H.size (by omega) (by omega) e_342 e_346 u_348) (cwV 0 hts gX4_readEither_X6_advance rfl rfl rfl (by decide +kernel) ⟨Nat.le_of_ble_eq_true rfl, Nat.le_of_ble_eq_true rfl⟩) ⟨fun a U g mk q => by obtain ⟨q0, q1, qP, qK, qD⟩ := q; exact ⟨q0, q1, qP, va_K.moved (u := U) (U := U.calling g mk a) (Vm.Alike.refl U.vm) qK, qD⟩, va_recv hK hP (ci := 6) (q0 := ktp) rfl e_342, fun U hU hW => ⟨rfl, by rw [hU], by rw [hU]; exact hP, va_K.moved hW.alike hK, hD.weaken (fun _ _ _ _ => trivial)⟩⟩ rfl rfl hl.1 rfl (lv_room (Nat.le_of_ble_eq_true rfl)) dX4_readEither_75 ⟨Nat.le_of_ble_eq_true rfl, Nat.le_of_ble_eq_true rfl⟩) hS (fun q _ h => hFc q h) hFc (fun u t H1 locs ht hvm w_353 hB hz1 hk1 hS => ?_)
        obtain ⟨ws_354, ty_355, hm_356, ht_358, hP1, hK1, hD1, hx_357⟩ := hB
        rw [ht] at hP1
        have hK := va_K.moved hvm.symm hK1
        have hD := hD1.weaken (fun _ _ _ h => hFc _ h)
        generalize H1 = H at hP1 hS ⊢
        have hP := hP1
        have e_359 := hm_356.objK e_341 (by decide)
        obtain ⟨g_361, e_360, h_362⟩ := hm_356.obj e_342
        obtain ⟨z_363, z_364, z_365, z_366, rfl⟩ := smX6 h_362
        obtain ⟨f_368, e_367⟩ := hm_356.arrI e_343
        have u_369 := ht_358 _ _ u_345
        obtain ⟨f_371, e_370⟩ := hm_356.arrI e_346
        have u_372 := ht_358 _ _ u_348
        have hsm := hsm.tr (hm_356.mono (by decide))
        have hlp_93 := hlp_93.tr (hm_356.mono (by decide))
        have htx := htx.tr ht_358
        obtain ⟨k_373, s_374, e_375, h_376, h_377, h_378, e_379⟩ := hx_357
        refine lv_aload_n hx hb dX4_readEither_78 rfl (lv_at hl 5 rfl) ?_
        refine lv_iload_n hx hb dX4_readEither_79 rfl (lv_at hl 4 rfl) ?_
        have hFc := free_all hD hS hA
        refine va_calli (va_runV (As := [.int 5]) (rest := []) ⟨hx, hb, hml, hown, hts⟩ (r_readOne5 l D ws_354 ty_355 adK adV fo rd krd tp ktp cd bb tl  H.size (⟨s_374, e_375, cc_117, ra_118, rb_119, rc_120, rv_121, re_122, nI k_373, by omega, by omega, by omega, by omega, e_359, e_379, ⟨k_130, c9_131, t_132, f_368, e_367, u_369⟩, ⟨k_136, c9_137, t_138, f_371, e_370, u_372⟩⟩ : RS ws_354 ty_355 rd krd tp ktp cd bb tl)) (cwV 1 hts gX4_readEither_X4_readOne rfl rfl rfl (by decide +kernel) ⟨Nat.le_of_ble_eq_true rfl, Nat.le_of_ble_eq_true rfl⟩) ⟨fun a U g mk q => by obtain ⟨q0, q1, qP, qK, qD, qS⟩ := q; exact ⟨q0, q1, qP, va_K.moved (u := U) (U := U.calling g mk a) (Vm.Alike.refl U.vm) qK, qD, SZ.same rfl rfl qS⟩, va_recv hK hP (ci := 4) (q0 := krd) rfl e_359, fun U hU hW => ⟨rfl, by rw [hU], by rw [hU]; exact hP, va_K.moved hW.alike hK, hD.weaken (fun _ _ _ _ => trivial), hsz9.go hS hW hU hFc⟩⟩ rfl rfl hl.1 rfl (lv_room (Nat.le_of_ble_eq_true rfl)) dX4_readEither_80 ⟨Nat.le_of_ble_eq_true rfl, Nat.le_of_ble_eq_true rfl⟩) hS (fun q _ h => hFc q h) hFc (fun r_380 u t H1 locs ht hvm w_381 hB hz1 hk1 hS => ?_)
        obtain ⟨ws_382, ty_383, hm_384, ht_386, hP1, hK1, hD1, hx_385⟩ := hB
        rw [ht] at hP1
        have hK := va_K.moved hvm.symm hK1
        have hD := hD1.weaken (fun _ _ _ h => hFc _ h)
        generalize H1 = H at hP1 hS ⊢
        have hP := hP1
        obtain ⟨g_388, e_387, h_389⟩ := hm_384.obj e_359
        obtain ⟨z_390, z_391, z_392, z_393, z_394, z_395, rfl⟩ := smX4 h_389
        obtain ⟨g_397, e_396, h_398⟩ := hm_384.obj e_379
        obtain ⟨z_399, z_400, z_401, z_402, rfl⟩ := smX6 h_398
        obtain ⟨f_404, e_403⟩ := hm_384.arrI e_367
        have u_405 := ht_386 _ _ u_369
        obtain ⟨f_407, e_406⟩ := hm_384.arrI e_370
        have u_408 := ht_386 _ _ u_372
        have hsm := hsm.tr (hm_384.mono (by decide))
        have hlp_93 := hlp_93.tr (hm_384.mono (by decide))
        have htx := htx.tr ht_386
        obtain ⟨ts_409, te_410, cc_411, ra_412, rb_413, rc_414, rv_415, re_416, ya_417, h1_418, h2_419, h3_420, h4_421, er_422, et_423, ⟨k_424, c9_425, t_426, f_427, e_428, u_429⟩, ⟨k_430, c9_431, t_432, f_433, e_434, u_435⟩⟩ := id hx_385
        refine lv_istore_n (lv' := [(2, .int r_380), (3, .int 1), (5, .int 0), (4, .int (nI i_85)), (1, .int 5), (0, .ref rd)]) hx hb dX4_readEither_83 rfl hl (by decide) rfl (fun ls hl => ?_)
        refine lv_iload hx hb dX4_readEither_84 (lv_at hl 2 rfl) ?_
        refine lv_if_eq (tgt := 95) hx hb dX4_readEither_86 (by decide) (fun c_436 => ?_) (fun c_436 => absurd (by decide) c_436)
        refine lv_iinc (v := nI (i_85 + 1)) (lv' := [(4, .int (nI (i_85 + 1))), (2, .int r_380), (3, .int 1), (5, .int 0), (1, .int 5), (0, .ref rd)]) hx hb dX4_readEither_95 hl (k := 3) rfl (nI_add i_85 1) (by decide) rfl (fun ls hl => ?_)
        refine lv_goto (tgt := 11) hx hb dX4_readEither_98 (by decide) ?_
        exact ih_84 (i_85 + 1, r_380, 1) ws_382 _ _ ls (by show 400 - (i_85 + 1) < 400 - i_85; omega) ⟨hlp_93, (⟨ts_409, te_410, cc_411, ra_412, rb_413, rc_414, rv_415, re_416, ya_417, by omega, by omega, by omega, by omega, er_422, et_423, ⟨k_424, c9_425, t_426, f_427, e_428, u_429⟩, ⟨k_430, c9_431, t_432, f_433, e_434, u_435⟩⟩ : RS ws_382 ty_383 rd krd tp ktp cd bb tl), (show (i_85 + 1) ≤ 400 from by omega), (show r_380 = 0 ∨ r_380 = 1 from w_381), (show 1 = 0 ∨ 1 = 1 from Or.inr rfl)⟩ hP hD hS (lv_sub hl [0, 1, 2, 4, 5] rfl)
      refine lv_iload hx hb dX4_readEither_60 (lv_at hl 0 rfl) ?_
      refine lv_if_ne (tgt := 69) hx hb dX4_readEither_62 (by decide) (fun c_437 => absurd (by decide) c_437) (fun c_437 => ?_)
      refine lv_iconst (v := 1) hx hb dX4_readEither_65 (by decide) ?_
      refine lv_goto (tgt := 70) hx hb dX4_readEither_66 (by decide) ?_
      refine lv_istore_n (lv' := [(3, .int 1), (5, .int 0), (4, .int (nI i_85)), (2, .int x_86), (1, .int 5), (0, .ref rd)]) hx hb dX4_readEither_70 rfl hl (by decide) rfl (fun ls hl => ?_)
      refine lv_aload_n hx hb dX4_readEither_71 rfl (lv_at hl 5 rfl) ?_
      refine va_get (D := D) (ci := 4) (v := .ref tp) (C := RX4) (T := TX4) (N := 8) hx hb hts hin4 hown hK hP krd e_341 rfl 0 (by decide) (hts (.fieldLink RX4 12 "HoneyHouse$RuleReader" "tape" "LHoneyHouse$Tape;") (List.mem_of_getElem? (i := 1) rfl)) (fun _ h9 => h9) rfl dX4_readEither_72 ?_
      have hFc := free_all hD hS hA
      refine va_callv (va_runV (As := []) (rest := []) ⟨hx, hb, hml, hown, hts⟩ (a_advance l D ws_336 ty_337 tp ktp tl te_116 ya_123 (nI ts_115) bb k_136 c9_137 t_138 f_347 H.size (by omega) (by omega) e_342 e_346 u_348) (cwV 0 hts gX4_readEither_X6_advance rfl rfl rfl (by decide +kernel) ⟨Nat.le_of_ble_eq_true rfl, Nat.le_of_ble_eq_true rfl⟩) ⟨fun a U g mk q => by obtain ⟨q0, q1, qP, qK, qD⟩ := q; exact ⟨q0, q1, qP, va_K.moved (u := U) (U := U.calling g mk a) (Vm.Alike.refl U.vm) qK, qD⟩, va_recv hK hP (ci := 6) (q0 := ktp) rfl e_342, fun U hU hW => ⟨rfl, by rw [hU], by rw [hU]; exact hP, va_K.moved hW.alike hK, hD.weaken (fun _ _ _ _ => trivial)⟩⟩ rfl rfl hl.1 rfl (lv_room (Nat.le_of_ble_eq_true rfl)) dX4_readEither_75 ⟨Nat.le_of_ble_eq_true rfl, Nat.le_of_ble_eq_true rfl⟩) hS (fun q _ h => hFc q h) hFc (fun u t H1 locs ht hvm w_439 hB hz1 hk1 hS => ?_)
      obtain ⟨ws_440, ty_441, hm_442, ht_444, hP1, hK1, hD1, hx_443⟩ := hB
      rw [ht] at hP1
      have hK := va_K.moved hvm.symm hK1
      have hD := hD1.weaken (fun _ _ _ h => hFc _ h)
      generalize H1 = H at hP1 hS ⊢
      have hP := hP1
      have e_445 := hm_442.objK e_341 (by decide)
      obtain ⟨g_447, e_446, h_448⟩ := hm_442.obj e_342
      obtain ⟨z_449, z_450, z_451, z_452, rfl⟩ := smX6 h_448
      obtain ⟨f_454, e_453⟩ := hm_442.arrI e_343
      have u_455 := ht_444 _ _ u_345
      obtain ⟨f_457, e_456⟩ := hm_442.arrI e_346
      have u_458 := ht_444 _ _ u_348
      have hsm := hsm.tr (hm_442.mono (by decide))
      have hlp_93 := hlp_93.tr (hm_442.mono (by decide))
      have htx := htx.tr ht_444
      obtain ⟨k_459, s_460, e_461, h_462, h_463, h_464, e_465⟩ := hx_443
      refine lv_aload_n hx hb dX4_readEither_78 rfl (lv_at hl 5 rfl) ?_
      refine lv_iload_n hx hb dX4_readEither_79 rfl (lv_at hl 4 rfl) ?_
      have hFc := free_all hD hS hA
      refine va_calli (va_runV (As := [.int 5]) (rest := []) ⟨hx, hb, hml, hown, hts⟩ (r_readOne5 l D ws_440 ty_441 adK adV fo rd krd tp ktp cd bb tl  H.size (⟨s_460, e_461, cc_117, ra_118, rb_119, rc_120, rv_121, re_122, nI k_459, by omega, by omega, by omega, by omega, e_445, e_465, ⟨k_130, c9_131, t_132, f_454, e_453, u_455⟩, ⟨k_136, c9_137, t_138, f_457, e_456, u_458⟩⟩ : RS ws_440 ty_441 rd krd tp ktp cd bb tl)) (cwV 1 hts gX4_readEither_X4_readOne rfl rfl rfl (by decide +kernel) ⟨Nat.le_of_ble_eq_true rfl, Nat.le_of_ble_eq_true rfl⟩) ⟨fun a U g mk q => by obtain ⟨q0, q1, qP, qK, qD, qS⟩ := q; exact ⟨q0, q1, qP, va_K.moved (u := U) (U := U.calling g mk a) (Vm.Alike.refl U.vm) qK, qD, SZ.same rfl rfl qS⟩, va_recv hK hP (ci := 4) (q0 := krd) rfl e_445, fun U hU hW => ⟨rfl, by rw [hU], by rw [hU]; exact hP, va_K.moved hW.alike hK, hD.weaken (fun _ _ _ _ => trivial), hsz9.go hS hW hU hFc⟩⟩ rfl rfl hl.1 rfl (lv_room (Nat.le_of_ble_eq_true rfl)) dX4_readEither_80 ⟨Nat.le_of_ble_eq_true rfl, Nat.le_of_ble_eq_true rfl⟩) hS (fun q _ h => hFc q h) hFc (fun r_466 u t H1 locs ht hvm w_467 hB hz1 hk1 hS => ?_)
      obtain ⟨ws_468, ty_469, hm_470, ht_472, hP1, hK1, hD1, hx_471⟩ := hB
      rw [ht] at hP1
      have hK := va_K.moved hvm.symm hK1
      have hD := hD1.weaken (fun _ _ _ h => hFc _ h)
      generalize H1 = H at hP1 hS ⊢
      have hP := hP1
      obtain ⟨g_474, e_473, h_475⟩ := hm_470.obj e_445
      obtain ⟨z_476, z_477, z_478, z_479, z_480, z_481, rfl⟩ := smX4 h_475
      obtain ⟨g_483, e_482, h_484⟩ := hm_470.obj e_465
      obtain ⟨z_485, z_486, z_487, z_488, rfl⟩ := smX6 h_484
      obtain ⟨f_490, e_489⟩ := hm_470.arrI e_453
      have u_491 := ht_472 _ _ u_455
      obtain ⟨f_493, e_492⟩ := hm_470.arrI e_456
      have u_494 := ht_472 _ _ u_458
      have hsm := hsm.tr (hm_470.mono (by decide))
      have hlp_93 := hlp_93.tr (hm_470.mono (by decide))
      have htx := htx.tr ht_472
      obtain ⟨ts_495, te_496, cc_497, ra_498, rb_499, rc_500, rv_501, re_502, ya_503, h1_504, h2_505, h3_506, h4_507, er_508, et_509, ⟨k_510, c9_511, t_512, f_513, e_514, u_515⟩, ⟨k_516, c9_517, t_518, f_519, e_520, u_521⟩⟩ := id hx_471
      refine lv_istore_n (lv' := [(2, .int r_466), (3, .int 1), (5, .int 0), (4, .int (nI i_85)), (1, .int 5), (0, .ref rd)]) hx hb dX4_readEither_83 rfl hl (by decide) rfl (fun ls hl => ?_)
      refine lv_iload hx hb dX4_readEither_84 (lv_at hl 2 rfl) ?_
      refine lv_if_eq (tgt := 95) hx hb dX4_readEither_86 (by decide) (fun c_522 => ?_) (fun c_522 => absurd (by decide) c_522)
      refine lv_iinc (v := nI (i_85 + 1)) (lv' := [(4, .int (nI (i_85 + 1))), (2, .int r_466), (3, .int 1), (5, .int 0), (1, .int 5), (0, .ref rd)]) hx hb dX4_readEither_95 hl (k := 3) rfl (nI_add i_85 1) (by decide) rfl (fun ls hl => ?_)
      refine lv_goto (tgt := 11) hx hb dX4_readEither_98 (by decide) ?_
      exact ih_84 (i_85 + 1, r_466, 1) ws_468 _ _ ls (by show 400 - (i_85 + 1) < 400 - i_85; omega) ⟨hlp_93, (⟨ts_495, te_496, cc_497, ra_498, rb_499, rc_500, rv_501, re_502, ya_503, by omega, by omega, by omega, by omega, er_508, et_509, ⟨k_510, c9_511, t_512, f_513, e_514, u_515⟩, ⟨k_516, c9_517, t_518, f_519, e_520, u_521⟩⟩ : RS ws_468 ty_469 rd krd tp ktp cd bb tl), (show (i_85 + 1) ≤ 400 from by omega), (show r_466 = 0 ∨ r_466 = 1 from w_467), (show 1 = 0 ∨ 1 = 1 from Or.inr rfl)⟩ hP hD hS (lv_sub hl [0, 1, 2, 4, 5] rfl)
    refine lv_aload_n hx hb dX4_readEither_50 rfl (lv_at hl 5 rfl) ?_
    refine lv_bipush (v := (-3)) hx hb dX4_readEither_51 (by decide) ?_
    have hFc := free_all hD hS hA
    refine va_callv (va_runV (As := [.int (-3)]) (rest := []) ⟨hx, hb, hml, hown, hts⟩ (r_addCode l D ws_336 ty_337 adK adV fo rd krd tp ktp cd bb tl (-3) H.size (⟨ts_115, te_116, cc_117, ra_118, rb_119, rc_120, rv_121, re_122, ya_123, by omega, by omega, by omega, by omega, e_341, e_342, ⟨k_130, c9_131, t_132, f_344, e_343, u_345⟩, ⟨k_136, c9_137, t_138, f_347, e_346, u_348⟩⟩ : RS ws_336 ty_337 rd krd tp ktp cd bb tl)) (cwV 1 hts gX4_readEither_X4_addCode rfl rfl rfl (by decide +kernel) ⟨Nat.le_of_ble_eq_true rfl, Nat.le_of_ble_eq_true rfl⟩) ⟨fun a U g mk q => by obtain ⟨q0, q1, qP, qK, qD, qS⟩ := q; exact ⟨q0, q1, qP, va_K.moved (u := U) (U := U.calling g mk a) (Vm.Alike.refl U.vm) qK, qD, SZ.same rfl rfl qS⟩, va_recv hK hP (ci := 4) (q0 := krd) rfl e_341, fun U hU hW => ⟨rfl, by rw [hU], by rw [hU]; exact hP, va_K.moved hW.alike hK, hD.weaken (fun _ _ _ _ => trivial), hsz9.go hS hW hU hFc⟩⟩ rfl rfl hl.1 rfl (lv_room (Nat.le_of_ble_eq_true rfl)) dX4_readEither_53 ⟨Nat.le_of_ble_eq_true rfl, Nat.le_of_ble_eq_true rfl⟩) hS (fun q _ h => hFc q h) hFc (fun u t H1 locs ht hvm w_524 hB hz1 hk1 hS => ?_)
    obtain ⟨ws_525, ty_526, hm_527, ht_529, hP1, hK1, hD1, hx_528⟩ := hB
    rw [ht] at hP1
    have hK := va_K.moved hvm.symm hK1
    have hD := hD1.weaken (fun _ _ _ h => hFc _ h)
    generalize H1 = H at hP1 hS ⊢
    have hP := hP1
    obtain ⟨g_531, e_530, h_532⟩ := hm_527.obj e_341
    obtain ⟨z_533, z_534, z_535, z_536, z_537, z_538, rfl⟩ := smX4 h_532
    obtain ⟨g_540, e_539, h_541⟩ := hm_527.obj e_342
    obtain ⟨z_542, z_543, z_544, z_545, rfl⟩ := smX6 h_541
    obtain ⟨f_547, e_546⟩ := hm_527.arrI e_343
    have u_548 := ht_529 _ _ u_345
    obtain ⟨f_550, e_549⟩ := hm_527.arrI e_346
    have u_551 := ht_529 _ _ u_348
    have hsm := hsm.tr (hm_527.mono (by decide))
    have hlp_93 := hlp_93.tr (hm_527.mono (by decide))
    have htx := htx.tr ht_529
    obtain ⟨ts_552, te_553, cc_554, ra_555, rb_556, rc_557, rv_558, re_559, ya_560, h1_561, h2_562, h3_563, h4_564, er_565, et_566, ⟨k_567, c9_568, t_569, f_570, e_571, u_572⟩, ⟨k_573, c9_574, t_575, f_576, e_577, u_578⟩⟩ := id hx_528
    refine lv_iload_n hx hb dX4_readEither_56 rfl (lv_at hl 3 rfl) ?_
    refine lv_if_ne (tgt := 65) hx hb dX4_readEither_57 (by decide) (fun c_579 => ?_) (fun c_579 => ?_)
    · refine lv_iconst (v := 1) hx hb dX4_readEither_65 (by decide) ?_
      refine lv_goto (tgt := 70) hx hb dX4_readEither_66 (by decide) ?_
      refine lv_istore_n (lv' := [(3, .int 1), (5, .int 0), (4, .int (nI i_85)), (2, .int x_86), (1, .int 5), (0, .ref rd)]) hx hb dX4_readEither_70 rfl hl (by decide) rfl (fun ls hl => ?_)
      refine lv_aload_n hx hb dX4_readEither_71 rfl (lv_at hl 5 rfl) ?_
      refine va_get (D := D) (ci := 4) (v := .ref tp) (C := RX4) (T := TX4) (N := 8) hx hb hts hin4 hown hK hP krd er_565 rfl 0 (by decide) (hts (.fieldLink RX4 12 "HoneyHouse$RuleReader" "tape" "LHoneyHouse$Tape;") (List.mem_of_getElem? (i := 1) rfl)) (fun _ h9 => h9) rfl dX4_readEither_72 ?_
      have hFc := free_all hD hS hA
      refine va_callv (va_runV (As := []) (rest := []) ⟨hx, hb, hml, hown, hts⟩ (a_advance l D ws_525 ty_526 tp ktp tl te_553 ya_560 (nI ts_552) bb k_573 c9_574 t_575 f_576 H.size (by omega) (by omega) et_566 e_577 u_578) (cwV 0 hts gX4_readEither_X6_advance rfl rfl rfl (by decide +kernel) ⟨Nat.le_of_ble_eq_true rfl, Nat.le_of_ble_eq_true rfl⟩) ⟨fun a U g mk q => by obtain ⟨q0, q1, qP, qK, qD⟩ := q; exact ⟨q0, q1, qP, va_K.moved (u := U) (U := U.calling g mk a) (Vm.Alike.refl U.vm) qK, qD⟩, va_recv hK hP (ci := 6) (q0 := ktp) rfl et_566, fun U hU hW => ⟨rfl, by rw [hU], by rw [hU]; exact hP, va_K.moved hW.alike hK, hD.weaken (fun _ _ _ _ => trivial)⟩⟩ rfl rfl hl.1 rfl (lv_room (Nat.le_of_ble_eq_true rfl)) dX4_readEither_75 ⟨Nat.le_of_ble_eq_true rfl, Nat.le_of_ble_eq_true rfl⟩) hS (fun q _ h => hFc q h) hFc (fun u t H1 locs ht hvm w_581 hB hz1 hk1 hS => ?_)
      obtain ⟨ws_582, ty_583, hm_584, ht_586, hP1, hK1, hD1, hx_585⟩ := hB
      rw [ht] at hP1
      have hK := va_K.moved hvm.symm hK1
      have hD := hD1.weaken (fun _ _ _ h => hFc _ h)
      generalize H1 = H at hP1 hS ⊢
      have hP := hP1
      have e_587 := hm_584.objK er_565 (by decide)
      obtain ⟨g_589, e_588, h_590⟩ := hm_584.obj et_566
      obtain ⟨z_591, z_592, z_593, z_594, rfl⟩ := smX6 h_590
      obtain ⟨f_596, e_595⟩ := hm_584.arrI e_571
      have u_597 := ht_586 _ _ u_572
      obtain ⟨f_599, e_598⟩ := hm_584.arrI e_577
      have u_600 := ht_586 _ _ u_578
      have hsm := hsm.tr (hm_584.mono (by decide))
      have hlp_93 := hlp_93.tr (hm_584.mono (by decide))
      have htx := htx.tr ht_586
      obtain ⟨k_601, s_602, e_603, h_604, h_605, h_606, e_607⟩ := hx_585
      refine lv_aload_n hx hb dX4_readEither_78 rfl (lv_at hl 5 rfl) ?_
      refine lv_iload_n hx hb dX4_readEither_79 rfl (lv_at hl 4 rfl) ?_
      have hFc := free_all hD hS hA
      refine va_calli (va_runV (As := [.int 5]) (rest := []) ⟨hx, hb, hml, hown, hts⟩ (r_readOne5 l D ws_582 ty_583 adK adV fo rd krd tp ktp cd bb tl  H.size (⟨s_602, e_603, cc_554, ra_555, rb_556, rc_557, rv_558, re_559, nI k_601, by omega, by omega, by omega, by omega, e_587, e_607, ⟨k_567, c9_568, t_569, f_596, e_595, u_597⟩, ⟨k_573, c9_574, t_575, f_599, e_598, u_600⟩⟩ : RS ws_582 ty_583 rd krd tp ktp cd bb tl)) (cwV 1 hts gX4_readEither_X4_readOne rfl rfl rfl (by decide +kernel) ⟨Nat.le_of_ble_eq_true rfl, Nat.le_of_ble_eq_true rfl⟩) ⟨fun a U g mk q => by obtain ⟨q0, q1, qP, qK, qD, qS⟩ := q; exact ⟨q0, q1, qP, va_K.moved (u := U) (U := U.calling g mk a) (Vm.Alike.refl U.vm) qK, qD, SZ.same rfl rfl qS⟩, va_recv hK hP (ci := 4) (q0 := krd) rfl e_587, fun U hU hW => ⟨rfl, by rw [hU], by rw [hU]; exact hP, va_K.moved hW.alike hK, hD.weaken (fun _ _ _ _ => trivial), hsz9.go hS hW hU hFc⟩⟩ rfl rfl hl.1 rfl (lv_room (Nat.le_of_ble_eq_true rfl)) dX4_readEither_80 ⟨Nat.le_of_ble_eq_true rfl, Nat.le_of_ble_eq_true rfl⟩) hS (fun q _ h => hFc q h) hFc (fun r_608 u t H1 locs ht hvm w_609 hB hz1 hk1 hS => ?_)
      obtain ⟨ws_610, ty_611, hm_612, ht_614, hP1, hK1, hD1, hx_613⟩ := hB
      rw [ht] at hP1
      have hK := va_K.moved hvm.symm hK1
      have hD := hD1.weaken (fun _ _ _ h => hFc _ h)
      generalize H1 = H at hP1 hS ⊢
      have hP := hP1
      obtain ⟨g_616, e_615, h_617⟩ := hm_612.obj e_587
      obtain ⟨z_618, z_619, z_620, z_621, z_622, z_623, rfl⟩ := smX4 h_617
      obtain ⟨g_625, e_624, h_626⟩ := hm_612.obj e_607
      obtain ⟨z_627, z_628, z_629, z_630, rfl⟩ := smX6 h_626
      obtain ⟨f_632, e_631⟩ := hm_612.arrI e_595
      have u_633 := ht_614 _ _ u_597
      obtain ⟨f_635, e_634⟩ := hm_612.arrI e_598
      have u_636 := ht_614 _ _ u_600
      have hsm := hsm.tr (hm_612.mono (by decide))
      have hlp_93 := hlp_93.tr (hm_612.mono (by decide))
      have htx := htx.tr ht_614
      obtain ⟨ts_637, te_638, cc_639, ra_640, rb_641, rc_642, rv_643, re_644, ya_645, h1_646, h2_647, h3_648, h4_649, er_650, et_651, ⟨k_652, c9_653, t_654, f_655, e_656, u_657⟩, ⟨k_658, c9_659, t_660, f_661, e_662, u_663⟩⟩ := id hx_613
      refine lv_istore_n (lv' := [(2, .int r_608), (3, .int 1), (5, .int 0), (4, .int (nI i_85)), (1, .int 5), (0, .ref rd)]) hx hb dX4_readEither_83 rfl hl (by decide) rfl (fun ls hl => ?_)
      refine lv_iload hx hb dX4_readEither_84 (lv_at hl 2 rfl) ?_
      refine lv_if_eq (tgt := 95) hx hb dX4_readEither_86 (by decide) (fun c_664 => ?_) (fun c_664 => absurd (by decide) c_664)
      refine lv_iinc (v := nI (i_85 + 1)) (lv' := [(4, .int (nI (i_85 + 1))), (2, .int r_608), (3, .int 1), (5, .int 0), (1, .int 5), (0, .ref rd)]) hx hb dX4_readEither_95 hl (k := 3) rfl (nI_add i_85 1) (by decide) rfl (fun ls hl => ?_)
      refine lv_goto (tgt := 11) hx hb dX4_readEither_98 (by decide) ?_
      exact ih_84 (i_85 + 1, r_608, 1) ws_610 _ _ ls (by show 400 - (i_85 + 1) < 400 - i_85; omega) ⟨hlp_93, (⟨ts_637, te_638, cc_639, ra_640, rb_641, rc_642, rv_643, re_644, ya_645, by omega, by omega, by omega, by omega, er_650, et_651, ⟨k_652, c9_653, t_654, f_655, e_656, u_657⟩, ⟨k_658, c9_659, t_660, f_661, e_662, u_663⟩⟩ : RS ws_610 ty_611 rd krd tp ktp cd bb tl), (show (i_85 + 1) ≤ 400 from by omega), (show r_608 = 0 ∨ r_608 = 1 from w_609), (show 1 = 0 ∨ 1 = 1 from Or.inr rfl)⟩ hP hD hS (lv_sub hl [0, 1, 2, 4, 5] rfl)
    refine lv_iload hx hb dX4_readEither_60 (lv_at hl 0 rfl) ?_
    refine lv_if_ne (tgt := 69) hx hb dX4_readEither_62 (by decide) (fun c_665 => absurd (by decide) c_665) (fun c_665 => ?_)
    refine lv_iconst (v := 1) hx hb dX4_readEither_65 (by decide) ?_
    refine lv_goto (tgt := 70) hx hb dX4_readEither_66 (by decide) ?_
    refine lv_istore_n (lv' := [(3, .int 1), (5, .int 0), (4, .int (nI i_85)), (2, .int x_86), (1, .int 5), (0, .ref rd)]) hx hb dX4_readEither_70 rfl hl (by decide) rfl (fun ls hl => ?_)
    refine lv_aload_n hx hb dX4_readEither_71 rfl (lv_at hl 5 rfl) ?_
    refine va_get (D := D) (ci := 4) (v := .ref tp) (C := RX4) (T := TX4) (N := 8) hx hb hts hin4 hown hK hP krd er_565 rfl 0 (by decide) (hts (.fieldLink RX4 12 "HoneyHouse$RuleReader" "tape" "LHoneyHouse$Tape;") (List.mem_of_getElem? (i := 1) rfl)) (fun _ h9 => h9) rfl dX4_readEither_72 ?_
    have hFc := free_all hD hS hA
    refine va_callv (va_runV (As := []) (rest := []) ⟨hx, hb, hml, hown, hts⟩ (a_advance l D ws_525 ty_526 tp ktp tl te_553 ya_560 (nI ts_552) bb k_573 c9_574 t_575 f_576 H.size (by omega) (by omega) et_566 e_577 u_578) (cwV 0 hts gX4_readEither_X6_advance rfl rfl rfl (by decide +kernel) ⟨Nat.le_of_ble_eq_true rfl, Nat.le_of_ble_eq_true rfl⟩) ⟨fun a U g mk q => by obtain ⟨q0, q1, qP, qK, qD⟩ := q; exact ⟨q0, q1, qP, va_K.moved (u := U) (U := U.calling g mk a) (Vm.Alike.refl U.vm) qK, qD⟩, va_recv hK hP (ci := 6) (q0 := ktp) rfl et_566, fun U hU hW => ⟨rfl, by rw [hU], by rw [hU]; exact hP, va_K.moved hW.alike hK, hD.weaken (fun _ _ _ _ => trivial)⟩⟩ rfl rfl hl.1 rfl (lv_room (Nat.le_of_ble_eq_true rfl)) dX4_readEither_75 ⟨Nat.le_of_ble_eq_true rfl, Nat.le_of_ble_eq_true rfl⟩) hS (fun q _ h => hFc q h) hFc (fun u t H1 locs ht hvm w_667 hB hz1 hk1 hS => ?_)
    obtain ⟨ws_668, ty_669, hm_670, ht_672, hP1, hK1, hD1, hx_671⟩ := hB
    rw [ht] at hP1
    have hK := va_K.moved hvm.symm hK1
    have hD := hD1.weaken (fun _ _ _ h => hFc _ h)
    generalize H1 = H at hP1 hS ⊢
    have hP := hP1
    have e_673 := hm_670.objK er_565 (by decide)
    obtain ⟨g_675, e_674, h_676⟩ := hm_670.obj et_566
    obtain ⟨z_677, z_678, z_679, z_680, rfl⟩ := smX6 h_676
    obtain ⟨f_682, e_681⟩ := hm_670.arrI e_571
    have u_683 := ht_672 _ _ u_572
    obtain ⟨f_685, e_684⟩ := hm_670.arrI e_577
    have u_686 := ht_672 _ _ u_578
    have hsm := hsm.tr (hm_670.mono (by decide))
    have hlp_93 := hlp_93.tr (hm_670.mono (by decide))
    have htx := htx.tr ht_672
    obtain ⟨k_687, s_688, e_689, h_690, h_691, h_692, e_693⟩ := hx_671
    refine lv_aload_n hx hb dX4_readEither_78 rfl (lv_at hl 5 rfl) ?_
    refine lv_iload_n hx hb dX4_readEither_79 rfl (lv_at hl 4 rfl) ?_
    have hFc := free_all hD hS hA
    refine va_calli (va_runV (As := [.int 5]) (rest := []) ⟨hx, hb, hml, hown, hts⟩ (r_readOne5 l D ws_668 ty_669 adK adV fo rd krd tp ktp cd bb tl  H.size (⟨s_688, e_689, cc_554, ra_555, rb_556, rc_557, rv_558, re_559, nI k_687, by omega, by omega, by omega, by omega, e_673, e_693, ⟨k_567, c9_568, t_569, f_682, e_681, u_683⟩, ⟨k_573, c9_574, t_575, f_685, e_684, u_686⟩⟩ : RS ws_668 ty_669 rd krd tp ktp cd bb tl)) (cwV 1 hts gX4_readEither_X4_readOne rfl rfl rfl (by decide +kernel) ⟨Nat.le_of_ble_eq_true rfl, Nat.le_of_ble_eq_true rfl⟩) ⟨fun a U g mk q => by obtain ⟨q0, q1, qP, qK, qD, qS⟩ := q; exact ⟨q0, q1, qP, va_K.moved (u := U) (U := U.calling g mk a) (Vm.Alike.refl U.vm) qK, qD, SZ.same rfl rfl qS⟩, va_recv hK hP (ci := 4) (q0 := krd) rfl e_673, fun U hU hW => ⟨rfl, by rw [hU], by rw [hU]; exact hP, va_K.moved hW.alike hK, hD.weaken (fun _ _ _ _ => trivial), hsz9.go hS hW hU hFc⟩⟩ rfl rfl hl.1 rfl (lv_room (Nat.le_of_ble_eq_true rfl)) dX4_readEither_80 ⟨Nat.le_of_ble_eq_true rfl, Nat.le_of_ble_eq_true rfl⟩) hS (fun q _ h => hFc q h) hFc (fun r_694 u t H1 locs ht hvm w_695 hB hz1 hk1 hS => ?_)
    obtain ⟨ws_696, ty_697, hm_698, ht_700, hP1, hK1, hD1, hx_699⟩ := hB
    rw [ht] at hP1
    have hK := va_K.moved hvm.symm hK1
    have hD := hD1.weaken (fun _ _ _ h => hFc _ h)
    generalize H1 = H at hP1 hS ⊢
    have hP := hP1
    obtain ⟨g_702, e_701, h_703⟩ := hm_698.obj e_673
    obtain ⟨z_704, z_705, z_706, z_707, z_708, z_709, rfl⟩ := smX4 h_703
    obtain ⟨g_711, e_710, h_712⟩ := hm_698.obj e_693
    obtain ⟨z_713, z_714, z_715, z_716, rfl⟩ := smX6 h_712
    obtain ⟨f_718, e_717⟩ := hm_698.arrI e_681
    have u_719 := ht_700 _ _ u_683
    obtain ⟨f_721, e_720⟩ := hm_698.arrI e_684
    have u_722 := ht_700 _ _ u_686
    have hsm := hsm.tr (hm_698.mono (by decide))
    have hlp_93 := hlp_93.tr (hm_698.mono (by decide))
    have htx := htx.tr ht_700
    obtain ⟨ts_723, te_724, cc_725, ra_726, rb_727, rc_728, rv_729, re_730, ya_731, h1_732, h2_733, h3_734, h4_735, er_736, et_737, ⟨k_738, c9_739, t_740, f_741, e_742, u_743⟩, ⟨k_744, c9_745, t_746, f_747, e_748, u_749⟩⟩ := id hx_699
    refine lv_istore_n (lv' := [(2, .int r_694), (3, .int 1), (5, .int 0), (4, .int (nI i_85)), (1, .int 5), (0, .ref rd)]) hx hb dX4_readEither_83 rfl hl (by decide) rfl (fun ls hl => ?_)
    refine lv_iload hx hb dX4_readEither_84 (lv_at hl 2 rfl) ?_
    refine lv_if_eq (tgt := 95) hx hb dX4_readEither_86 (by decide) (fun c_750 => ?_) (fun c_750 => absurd (by decide) c_750)
    refine lv_iinc (v := nI (i_85 + 1)) (lv' := [(4, .int (nI (i_85 + 1))), (2, .int r_694), (3, .int 1), (5, .int 0), (1, .int 5), (0, .ref rd)]) hx hb dX4_readEither_95 hl (k := 3) rfl (nI_add i_85 1) (by decide) rfl (fun ls hl => ?_)
    refine lv_goto (tgt := 11) hx hb dX4_readEither_98 (by decide) ?_
    exact ih_84 (i_85 + 1, r_694, 1) ws_696 _ _ ls (by show 400 - (i_85 + 1) < 400 - i_85; omega) ⟨hlp_93, (⟨ts_723, te_724, cc_725, ra_726, rb_727, rc_728, rv_729, re_730, ya_731, by omega, by omega, by omega, by omega, er_736, et_737, ⟨k_738, c9_739, t_740, f_741, e_742, u_743⟩, ⟨k_744, c9_745, t_746, f_747, e_748, u_749⟩⟩ : RS ws_696 ty_697 rd krd tp ktp cd bb tl), (show (i_85 + 1) ≤ 400 from by omega), (show r_694 = 0 ∨ r_694 = 1 from w_695), (show 1 = 0 ∨ 1 = 1 from Or.inr rfl)⟩ hP hD hS (lv_sub hl [0, 1, 2, 4, 5] rfl)
  refine lv_istore (lv' := [(5, .int 1), (4, .int (nI i_85)), (2, .int x_86), (3, .int y_87), (1, .int 5), (0, .ref rd)]) hx hb dX4_readEither_39 hl (by decide) rfl (fun ls hl => ?_)
  refine lv_iload hx hb dX4_readEither_41 (lv_at hl 0 rfl) ?_
  refine lv_if_ne (tgt := 56) hx hb dX4_readEither_43 (by decide) (fun c_751 => ?_) (fun c_751 => absurd c_751 (by decide))
  refine lv_iload_n hx hb dX4_readEither_56 rfl (lv_at hl 3 rfl) ?_
  refine lv_if_ne (tgt := 65) hx hb dX4_readEither_57 (by decide) (fun c_752 => ?_) (fun c_752 => ?_)
  · refine lv_iconst (v := 1) hx hb dX4_readEither_65 (by decide) ?_
    refine lv_goto (tgt := 70) hx hb dX4_readEither_66 (by decide) ?_
    refine lv_istore_n (lv' := [(3, .int 1), (5, .int 1), (4, .int (nI i_85)), (2, .int x_86), (1, .int 5), (0, .ref rd)]) hx hb dX4_readEither_70 rfl hl (by decide) rfl (fun ls hl => ?_)
    refine lv_aload_n hx hb dX4_readEither_71 rfl (lv_at hl 5 rfl) ?_
    refine va_get (D := D) (ci := 4) (v := .ref tp) (C := RX4) (T := TX4) (N := 8) hx hb hts hin4 hown hK hP krd e_341 rfl 0 (by decide) (hts (.fieldLink RX4 12 "HoneyHouse$RuleReader" "tape" "LHoneyHouse$Tape;") (List.mem_of_getElem? (i := 1) rfl)) (fun _ h9 => h9) rfl dX4_readEither_72 ?_
    have hFc := free_all hD hS hA
    refine va_callv (va_runV (As := []) (rest := []) ⟨hx, hb, hml, hown, hts⟩ (a_advance l D ws_336 ty_337 tp ktp tl te_116 ya_123 (nI ts_115) bb k_136 c9_137 t_138 f_347 H.size (by omega) (by omega) e_342 e_346 u_348) (cwV 0 hts gX4_readEither_X6_advance rfl rfl rfl (by decide +kernel) ⟨Nat.le_of_ble_eq_true rfl, Nat.le_of_ble_eq_true rfl⟩) ⟨fun a U g mk q => by obtain ⟨q0, q1, qP, qK, qD⟩ := q; exact ⟨q0, q1, qP, va_K.moved (u := U) (U := U.calling g mk a) (Vm.Alike.refl U.vm) qK, qD⟩, va_recv hK hP (ci := 6) (q0 := ktp) rfl e_342, fun U hU hW => ⟨rfl, by rw [hU], by rw [hU]; exact hP, va_K.moved hW.alike hK, hD.weaken (fun _ _ _ _ => trivial)⟩⟩ rfl rfl hl.1 rfl (lv_room (Nat.le_of_ble_eq_true rfl)) dX4_readEither_75 ⟨Nat.le_of_ble_eq_true rfl, Nat.le_of_ble_eq_true rfl⟩) hS (fun q _ h => hFc q h) hFc (fun u t H1 locs ht hvm w_754 hB hz1 hk1 hS => ?_)
    obtain ⟨ws_755, ty_756, hm_757, ht_759, hP1, hK1, hD1, hx_758⟩ := hB
    rw [ht] at hP1
    have hK := va_K.moved hvm.symm hK1
    have hD := hD1.weaken (fun _ _ _ h => hFc _ h)
    generalize H1 = H at hP1 hS ⊢
    have hP := hP1
    have e_760 := hm_757.objK e_341 (by decide)
    obtain ⟨g_762, e_761, h_763⟩ := hm_757.obj e_342
    obtain ⟨z_764, z_765, z_766, z_767, rfl⟩ := smX6 h_763
    obtain ⟨f_769, e_768⟩ := hm_757.arrI e_343
    have u_770 := ht_759 _ _ u_345
    obtain ⟨f_772, e_771⟩ := hm_757.arrI e_346
    have u_773 := ht_759 _ _ u_348
    have hsm := hsm.tr (hm_757.mono (by decide))
    have hlp_93 := hlp_93.tr (hm_757.mono (by decide))
    have htx := htx.tr ht_759
    obtain ⟨k_774, s_775, e_776, h_777, h_778, h_779, e_780⟩ := hx_758
    refine lv_aload_n hx hb dX4_readEither_78 rfl (lv_at hl 5 rfl) ?_
    refine lv_iload_n hx hb dX4_readEither_79 rfl (lv_at hl 4 rfl) ?_
    have hFc := free_all hD hS hA
    refine va_calli (va_runV (As := [.int 5]) (rest := []) ⟨hx, hb, hml, hown, hts⟩ (r_readOne5 l D ws_755 ty_756 adK adV fo rd krd tp ktp cd bb tl  H.size (⟨s_775, e_776, cc_117, ra_118, rb_119, rc_120, rv_121, re_122, nI k_774, by omega, by omega, by omega, by omega, e_760, e_780, ⟨k_130, c9_131, t_132, f_769, e_768, u_770⟩, ⟨k_136, c9_137, t_138, f_772, e_771, u_773⟩⟩ : RS ws_755 ty_756 rd krd tp ktp cd bb tl)) (cwV 1 hts gX4_readEither_X4_readOne rfl rfl rfl (by decide +kernel) ⟨Nat.le_of_ble_eq_true rfl, Nat.le_of_ble_eq_true rfl⟩) ⟨fun a U g mk q => by obtain ⟨q0, q1, qP, qK, qD, qS⟩ := q; exact ⟨q0, q1, qP, va_K.moved (u := U) (U := U.calling g mk a) (Vm.Alike.refl U.vm) qK, qD, SZ.same rfl rfl qS⟩, va_recv hK hP (ci := 4) (q0 := krd) rfl e_760, fun U hU hW => ⟨rfl, by rw [hU], by rw [hU]; exact hP, va_K.moved hW.alike hK, hD.weaken (fun _ _ _ _ => trivial), hsz9.go hS hW hU hFc⟩⟩ rfl rfl hl.1 rfl (lv_room (Nat.le_of_ble_eq_true rfl)) dX4_readEither_80 ⟨Nat.le_of_ble_eq_true rfl, Nat.le_of_ble_eq_true rfl⟩) hS (fun q _ h => hFc q h) hFc (fun r_781 u t H1 locs ht hvm w_782 hB hz1 hk1 hS => ?_)
    obtain ⟨ws_783, ty_784, hm_785, ht_787, hP1, hK1, hD1, hx_786⟩ := hB
    rw [ht] at hP1
    have hK := va_K.moved hvm.symm hK1
    have hD := hD1.weaken (fun _ _ _ h => hFc _ h)
    generalize H1 = H at hP1 hS ⊢
    have hP := hP1
    obtain ⟨g_789, e_788, h_790⟩ := hm_785.obj e_760
    obtain ⟨z_791, z_792, z_793, z_794, z_795, z_796, rfl⟩ := smX4 h_790
    obtain ⟨g_798, e_797, h_799⟩ := hm_785.obj e_780
    obtain ⟨z_800, z_801, z_802, z_803, rfl⟩ := smX6 h_799
    obtain ⟨f_805, e_804⟩ := hm_785.arrI e_768
    have u_806 := ht_787 _ _ u_770
    obtain ⟨f_808, e_807⟩ := hm_785.arrI e_771
    have u_809 := ht_787 _ _ u_773
    have hsm := hsm.tr (hm_785.mono (by decide))
    have hlp_93 := hlp_93.tr (hm_785.mono (by decide))
    have htx := htx.tr ht_787
    obtain ⟨ts_810, te_811, cc_812, ra_813, rb_814, rc_815, rv_816, re_817, ya_818, h1_819, h2_820, h3_821, h4_822, er_823, et_824, ⟨k_825, c9_826, t_827, f_828, e_829, u_830⟩, ⟨k_831, c9_832, t_833, f_834, e_835, u_836⟩⟩ := id hx_786
    refine lv_istore_n (lv' := [(2, .int r_781), (3, .int 1), (5, .int 1), (4, .int (nI i_85)), (1, .int 5), (0, .ref rd)]) hx hb dX4_readEither_83 rfl hl (by decide) rfl (fun ls hl => ?_)
    refine lv_iload hx hb dX4_readEither_84 (lv_at hl 2 rfl) ?_
    refine lv_if_eq (tgt := 95) hx hb dX4_readEither_86 (by decide) (fun c_837 => absurd c_837 (by decide)) (fun c_837 => ?_)
    refine lv_aload_n hx hb dX4_readEither_89 rfl (lv_at hl 5 rfl) ?_
    refine lv_bipush (v := (-2)) hx hb dX4_readEither_90 (by decide) ?_
    have hFc := free_all hD hS hA
    refine va_callv (va_runV (As := [.int (-2)]) (rest := []) ⟨hx, hb, hml, hown, hts⟩ (r_addCode l D ws_783 ty_784 adK adV fo rd krd tp ktp cd bb tl (-2) H.size (⟨ts_810, te_811, cc_812, ra_813, rb_814, rc_815, rv_816, re_817, ya_818, by omega, by omega, by omega, by omega, er_823, et_824, ⟨k_825, c9_826, t_827, f_828, e_829, u_830⟩, ⟨k_831, c9_832, t_833, f_834, e_835, u_836⟩⟩ : RS ws_783 ty_784 rd krd tp ktp cd bb tl)) (cwV 1 hts gX4_readEither_X4_addCode rfl rfl rfl (by decide +kernel) ⟨Nat.le_of_ble_eq_true rfl, Nat.le_of_ble_eq_true rfl⟩) ⟨fun a U g mk q => by obtain ⟨q0, q1, qP, qK, qD, qS⟩ := q; exact ⟨q0, q1, qP, va_K.moved (u := U) (U := U.calling g mk a) (Vm.Alike.refl U.vm) qK, qD, SZ.same rfl rfl qS⟩, va_recv hK hP (ci := 4) (q0 := krd) rfl er_823, fun U hU hW => ⟨rfl, by rw [hU], by rw [hU]; exact hP, va_K.moved hW.alike hK, hD.weaken (fun _ _ _ _ => trivial), hsz9.go hS hW hU hFc⟩⟩ rfl rfl hl.1 rfl (lv_room (Nat.le_of_ble_eq_true rfl)) dX4_readEither_92 ⟨Nat.le_of_ble_eq_true rfl, Nat.le_of_ble_eq_true rfl⟩) hS (fun q _ h => hFc q h) hFc (fun u t H1 locs ht hvm w_839 hB hz1 hk1 hS => ?_)
    obtain ⟨ws_840, ty_841, hm_842, ht_844, hP1, hK1, hD1, hx_843⟩ := hB
    rw [ht] at hP1
    have hK := va_K.moved hvm.symm hK1
    have hD := hD1.weaken (fun _ _ _ h => hFc _ h)
    generalize H1 = H at hP1 hS ⊢
    have hP := hP1
    obtain ⟨g_846, e_845, h_847⟩ := hm_842.obj er_823
    obtain ⟨z_848, z_849, z_850, z_851, z_852, z_853, rfl⟩ := smX4 h_847
    obtain ⟨g_855, e_854, h_856⟩ := hm_842.obj et_824
    obtain ⟨z_857, z_858, z_859, z_860, rfl⟩ := smX6 h_856
    obtain ⟨f_862, e_861⟩ := hm_842.arrI e_829
    have u_863 := ht_844 _ _ u_830
    obtain ⟨f_865, e_864⟩ := hm_842.arrI e_835
    have u_866 := ht_844 _ _ u_836
    have hsm := hsm.tr (hm_842.mono (by decide))
    have hlp_93 := hlp_93.tr (hm_842.mono (by decide))
    have htx := htx.tr ht_844
    obtain ⟨ts_867, te_868, cc_869, ra_870, rb_871, rc_872, rv_873, re_874, ya_875, h1_876, h2_877, h3_878, h4_879, er_880, et_881, ⟨k_882, c9_883, t_884, f_885, e_886, u_887⟩, ⟨k_888, c9_889, t_890, f_891, e_892, u_893⟩⟩ := id hx_843
    refine lv_iinc (v := nI (i_85 + 1)) (lv' := [(4, .int (nI (i_85 + 1))), (2, .int r_781), (3, .int 1), (5, .int 1), (1, .int 5), (0, .ref rd)]) hx hb dX4_readEither_95 hl (k := 3) rfl (nI_add i_85 1) (by decide) rfl (fun ls hl => ?_)
    refine lv_goto (tgt := 11) hx hb dX4_readEither_98 (by decide) ?_
    exact ih_84 (i_85 + 1, r_781, 1) ws_840 _ _ ls (by show 400 - (i_85 + 1) < 400 - i_85; omega) ⟨hlp_93, (⟨ts_867, te_868, cc_869, ra_870, rb_871, rc_872, rv_873, re_874, ya_875, by omega, by omega, by omega, by omega, er_880, et_881, ⟨k_882, c9_883, t_884, f_885, e_886, u_887⟩, ⟨k_888, c9_889, t_890, f_891, e_892, u_893⟩⟩ : RS ws_840 ty_841 rd krd tp ktp cd bb tl), (show (i_85 + 1) ≤ 400 from by omega), (show r_781 = 0 ∨ r_781 = 1 from w_782), (show 1 = 0 ∨ 1 = 1 from Or.inr rfl)⟩ hP hD hS (lv_sub hl [0, 1, 2, 4, 5] rfl)
  refine lv_iload hx hb dX4_readEither_60 (lv_at hl 0 rfl) ?_
  refine lv_if_ne (tgt := 69) hx hb dX4_readEither_62 (by decide) (fun c_894 => ?_) (fun c_894 => absurd c_894 (by decide))
  refine lv_iconst (v := 0) hx hb dX4_readEither_69 (by decide) ?_
  refine lv_istore_n (lv' := [(3, .int 0), (5, .int 1), (4, .int (nI i_85)), (2, .int x_86), (1, .int 5), (0, .ref rd)]) hx hb dX4_readEither_70 rfl hl (by decide) rfl (fun ls hl => ?_)
  refine lv_aload_n hx hb dX4_readEither_71 rfl (lv_at hl 5 rfl) ?_
  refine va_get (D := D) (ci := 4) (v := .ref tp) (C := RX4) (T := TX4) (N := 8) hx hb hts hin4 hown hK hP krd e_341 rfl 0 (by decide) (hts (.fieldLink RX4 12 "HoneyHouse$RuleReader" "tape" "LHoneyHouse$Tape;") (List.mem_of_getElem? (i := 1) rfl)) (fun _ h9 => h9) rfl dX4_readEither_72 ?_
  have hFc := free_all hD hS hA
  refine va_callv (va_runV (As := []) (rest := []) ⟨hx, hb, hml, hown, hts⟩ (a_advance l D ws_336 ty_337 tp ktp tl te_116 ya_123 (nI ts_115) bb k_136 c9_137 t_138 f_347 H.size (by omega) (by omega) e_342 e_346 u_348) (cwV 0 hts gX4_readEither_X6_advance rfl rfl rfl (by decide +kernel) ⟨Nat.le_of_ble_eq_true rfl, Nat.le_of_ble_eq_true rfl⟩) ⟨fun a U g mk q => by obtain ⟨q0, q1, qP, qK, qD⟩ := q; exact ⟨q0, q1, qP, va_K.moved (u := U) (U := U.calling g mk a) (Vm.Alike.refl U.vm) qK, qD⟩, va_recv hK hP (ci := 6) (q0 := ktp) rfl e_342, fun U hU hW => ⟨rfl, by rw [hU], by rw [hU]; exact hP, va_K.moved hW.alike hK, hD.weaken (fun _ _ _ _ => trivial)⟩⟩ rfl rfl hl.1 rfl (lv_room (Nat.le_of_ble_eq_true rfl)) dX4_readEither_75 ⟨Nat.le_of_ble_eq_true rfl, Nat.le_of_ble_eq_true rfl⟩) hS (fun q _ h => hFc q h) hFc (fun u t H1 locs ht hvm w_896 hB hz1 hk1 hS => ?_)
  obtain ⟨ws_897, ty_898, hm_899, ht_901, hP1, hK1, hD1, hx_900⟩ := hB
  rw [ht] at hP1
  have hK := va_K.moved hvm.symm hK1
  have hD := hD1.weaken (fun _ _ _ h => hFc _ h)
  generalize H1 = H at hP1 hS ⊢
  have hP := hP1
  have e_902 := hm_899.objK e_341 (by decide)
  obtain ⟨g_904, e_903, h_905⟩ := hm_899.obj e_342
  obtain ⟨z_906, z_907, z_908, z_909, rfl⟩ := smX6 h_905
  obtain ⟨f_911, e_910⟩ := hm_899.arrI e_343
  have u_912 := ht_901 _ _ u_345
  obtain ⟨f_914, e_913⟩ := hm_899.arrI e_346
  have u_915 := ht_901 _ _ u_348
  have hsm := hsm.tr (hm_899.mono (by decide))
  have hlp_93 := hlp_93.tr (hm_899.mono (by decide))
  have htx := htx.tr ht_901
  obtain ⟨k_916, s_917, e_918, h_919, h_920, h_921, e_922⟩ := hx_900
  refine lv_aload_n hx hb dX4_readEither_78 rfl (lv_at hl 5 rfl) ?_
  refine lv_iload_n hx hb dX4_readEither_79 rfl (lv_at hl 4 rfl) ?_
  have hFc := free_all hD hS hA
  refine va_calli (va_runV (As := [.int 5]) (rest := []) ⟨hx, hb, hml, hown, hts⟩ (r_readOne5 l D ws_897 ty_898 adK adV fo rd krd tp ktp cd bb tl  H.size (⟨s_917, e_918, cc_117, ra_118, rb_119, rc_120, rv_121, re_122, nI k_916, by omega, by omega, by omega, by omega, e_902, e_922, ⟨k_130, c9_131, t_132, f_911, e_910, u_912⟩, ⟨k_136, c9_137, t_138, f_914, e_913, u_915⟩⟩ : RS ws_897 ty_898 rd krd tp ktp cd bb tl)) (cwV 1 hts gX4_readEither_X4_readOne rfl rfl rfl (by decide +kernel) ⟨Nat.le_of_ble_eq_true rfl, Nat.le_of_ble_eq_true rfl⟩) ⟨fun a U g mk q => by obtain ⟨q0, q1, qP, qK, qD, qS⟩ := q; exact ⟨q0, q1, qP, va_K.moved (u := U) (U := U.calling g mk a) (Vm.Alike.refl U.vm) qK, qD, SZ.same rfl rfl qS⟩, va_recv hK hP (ci := 4) (q0 := krd) rfl e_902, fun U hU hW => ⟨rfl, by rw [hU], by rw [hU]; exact hP, va_K.moved hW.alike hK, hD.weaken (fun _ _ _ _ => trivial), hsz9.go hS hW hU hFc⟩⟩ rfl rfl hl.1 rfl (lv_room (Nat.le_of_ble_eq_true rfl)) dX4_readEither_80 ⟨Nat.le_of_ble_eq_true rfl, Nat.le_of_ble_eq_true rfl⟩) hS (fun q _ h => hFc q h) hFc (fun r_923 u t H1 locs ht hvm w_924 hB hz1 hk1 hS => ?_)
  obtain ⟨ws_925, ty_926, hm_927, ht_929, hP1, hK1, hD1, hx_928⟩ := hB
  rw [ht] at hP1
  have hK := va_K.moved hvm.symm hK1
  have hD := hD1.weaken (fun _ _ _ h => hFc _ h)
  generalize H1 = H at hP1 hS ⊢
  have hP := hP1
  obtain ⟨g_931, e_930, h_932⟩ := hm_927.obj e_902
  obtain ⟨z_933, z_934, z_935, z_936, z_937, z_938, rfl⟩ := smX4 h_932
  obtain ⟨g_940, e_939, h_941⟩ := hm_927.obj e_922
  obtain ⟨z_942, z_943, z_944, z_945, rfl⟩ := smX6 h_941
  obtain ⟨f_947, e_946⟩ := hm_927.arrI e_910
  have u_948 := ht_929 _ _ u_912
  obtain ⟨f_950, e_949⟩ := hm_927.arrI e_913
  have u_951 := ht_929 _ _ u_915
  have hsm := hsm.tr (hm_927.mono (by decide))
  have hlp_93 := hlp_93.tr (hm_927.mono (by decide))
  have htx := htx.tr ht_929
  obtain ⟨ts_952, te_953, cc_954, ra_955, rb_956, rc_957, rv_958, re_959, ya_960, h1_961, h2_962, h3_963, h4_964, er_965, et_966, ⟨k_967, c9_968, t_969, f_970, e_971, u_972⟩, ⟨k_973, c9_974, t_975, f_976, e_977, u_978⟩⟩ := id hx_928
  refine lv_istore_n (lv' := [(2, .int r_923), (3, .int 0), (5, .int 1), (4, .int (nI i_85)), (1, .int 5), (0, .ref rd)]) hx hb dX4_readEither_83 rfl hl (by decide) rfl (fun ls hl => ?_)
  refine lv_iload hx hb dX4_readEither_84 (lv_at hl 2 rfl) ?_
  refine lv_if_eq (tgt := 95) hx hb dX4_readEither_86 (by decide) (fun c_979 => absurd c_979 (by decide)) (fun c_979 => ?_)
  refine lv_aload_n hx hb dX4_readEither_89 rfl (lv_at hl 5 rfl) ?_
  refine lv_bipush (v := (-2)) hx hb dX4_readEither_90 (by decide) ?_
  have hFc := free_all hD hS hA
  refine va_callv (va_runV (As := [.int (-2)]) (rest := []) ⟨hx, hb, hml, hown, hts⟩ (r_addCode l D ws_925 ty_926 adK adV fo rd krd tp ktp cd bb tl (-2) H.size (⟨ts_952, te_953, cc_954, ra_955, rb_956, rc_957, rv_958, re_959, ya_960, by omega, by omega, by omega, by omega, er_965, et_966, ⟨k_967, c9_968, t_969, f_970, e_971, u_972⟩, ⟨k_973, c9_974, t_975, f_976, e_977, u_978⟩⟩ : RS ws_925 ty_926 rd krd tp ktp cd bb tl)) (cwV 1 hts gX4_readEither_X4_addCode rfl rfl rfl (by decide +kernel) ⟨Nat.le_of_ble_eq_true rfl, Nat.le_of_ble_eq_true rfl⟩) ⟨fun a U g mk q => by obtain ⟨q0, q1, qP, qK, qD, qS⟩ := q; exact ⟨q0, q1, qP, va_K.moved (u := U) (U := U.calling g mk a) (Vm.Alike.refl U.vm) qK, qD, SZ.same rfl rfl qS⟩, va_recv hK hP (ci := 4) (q0 := krd) rfl er_965, fun U hU hW => ⟨rfl, by rw [hU], by rw [hU]; exact hP, va_K.moved hW.alike hK, hD.weaken (fun _ _ _ _ => trivial), hsz9.go hS hW hU hFc⟩⟩ rfl rfl hl.1 rfl (lv_room (Nat.le_of_ble_eq_true rfl)) dX4_readEither_92 ⟨Nat.le_of_ble_eq_true rfl, Nat.le_of_ble_eq_true rfl⟩) hS (fun q _ h => hFc q h) hFc (fun u t H1 locs ht hvm w_981 hB hz1 hk1 hS => ?_)
  obtain ⟨ws_982, ty_983, hm_984, ht_986, hP1, hK1, hD1, hx_985⟩ := hB
  rw [ht] at hP1
  have hK := va_K.moved hvm.symm hK1
  have hD := hD1.weaken (fun _ _ _ h => hFc _ h)
  generalize H1 = H at hP1 hS ⊢
  have hP := hP1
  obtain ⟨g_988, e_987, h_989⟩ := hm_984.obj er_965
  obtain ⟨z_990, z_991, z_992, z_993, z_994, z_995, rfl⟩ := smX4 h_989
  obtain ⟨g_997, e_996, h_998⟩ := hm_984.obj et_966
  obtain ⟨z_999, z_1000, z_1001, z_1002, rfl⟩ := smX6 h_998
  obtain ⟨f_1004, e_1003⟩ := hm_984.arrI e_971
  have u_1005 := ht_986 _ _ u_972
  obtain ⟨f_1007, e_1006⟩ := hm_984.arrI e_977
  have u_1008 := ht_986 _ _ u_978
  have hsm := hsm.tr (hm_984.mono (by decide))
  have hlp_93 := hlp_93.tr (hm_984.mono (by decide))
  have htx := htx.tr ht_986
  obtain ⟨ts_1009, te_1010, cc_1011, ra_1012, rb_1013, rc_1014, rv_1015, re_1016, ya_1017, h1_1018, h2_1019, h3_1020, h4_1021, er_1022, et_1023, ⟨k_1024, c9_1025, t_1026, f_1027, e_1028, u_1029⟩, ⟨k_1030, c9_1031, t_1032, f_1033, e_1034, u_1035⟩⟩ := id hx_985
  refine lv_iinc (v := nI (i_85 + 1)) (lv' := [(4, .int (nI (i_85 + 1))), (2, .int r_923), (3, .int 0), (5, .int 1), (1, .int 5), (0, .ref rd)]) hx hb dX4_readEither_95 hl (k := 3) rfl (nI_add i_85 1) (by decide) rfl (fun ls hl => ?_)
  refine lv_goto (tgt := 11) hx hb dX4_readEither_98 (by decide) ?_
  exact ih_84 (i_85 + 1, r_923, 0) ws_982 _ _ ls (by show 400 - (i_85 + 1) < 400 - i_85; omega) ⟨hlp_93, (⟨ts_1009, te_1010, cc_1011, ra_1012, rb_1013, rc_1014, rv_1015, re_1016, ya_1017, by omega, by omega, by omega, by omega, er_1022, et_1023, ⟨k_1024, c9_1025, t_1026, f_1027, e_1028, u_1029⟩, ⟨k_1030, c9_1031, t_1032, f_1033, e_1034, u_1035⟩⟩ : RS ws_982 ty_983 rd krd tp ktp cd bb tl), (show (i_85 + 1) ≤ 400 from by omega), (show r_923 = 0 ∨ r_923 = 1 from w_924), (show 0 = 0 ∨ 0 = 1 from Or.inl rfl)⟩ hP hD hS (lv_sub hl [0, 1, 2, 4, 5] rfl)
set_option maxHeartbeats 4000000 in
set_option maxRecDepth 100000 in
theorem r_readOne4 (l : Launch) (D : va_G) (ws : va_W) (tys : List (ClassId × FieldType)) (adK adV : Nat → Nat) (fo : Option Nat) (rd krd tp ktp cd bb tl : Nat)  (sz : Nat) (R0 : RS ws tys rd krd tp ktp cd bb tl)  : Met l yX4_readOne wsX4_readOne ({ frames := 11, cells := 0, slots := 0, locals := 245 }) (va_Pc [.ref rd, .int 4] (fun U => U.heap.size = sz ∧ va_P D vwCl ws U.heap ∧ va_K D vwCl tys U ∧ va_D (fun _ => True) ws ∧ SZ adK adV fo (va_A ws sz) U U.heap)) (va_Qi (fun (r : Int32) (_ : Unit) => r = 0 ∨ r = 1) (fun (_ : Unit) (t : State) => ∃ (ws' : va_W) (tys' : List (ClassId × FieldType)), sm [4, 6] ws ws' ∧ tyx tys tys' ∧ va_P D vwCl ws' t.heap ∧ va_K D vwCl tys' t ∧ va_D (va_A ws sz) ws' ∧ RS ws' tys' rd krd tp ktp cd bb tl) (va_A ws sz)) 0 0 (va_A ws sz) := by
  refine Met.ofW (cc := cX4_readOne) (maxL := 4) (ret := (some .boolean)) (by decide) rfl ?_
  intro p e s m args below meth c s₁ B hml hv
  obtain ⟨rfl, hsz, hP, hK, hD0, hsz9⟩ := hv
  have hx := B.exec
  have hb := B.bytes
  have hr := B.returns
  have hts := atoms_spec (ws := wsX4_readOne) B.pre
  have hown : s.vm.findClass RX4 = some m.cls := findClass_of_methodNamed B.named
  have hlocks := B.notSynchronized
  subst hsz
  have hD := hD0.self (sz := s.heap.size)
  generalize hAe : va_A ws s.heap.size = A at hD hsz9 ⊢
  have hA : ∀ q : Nat, s.heap.size ≤ q → A q := fun q h => by rw [← hAe]; exact Or.inr h
  have hS : va_S A s.heap s.heap [] := va_S.rf
  have hsm : sm [4, 6] ws ws := sm.rf ws
  have htx : tyx tys tys := tyx.rf tys
  have hin4 : ∀ w ∈ u_ws RX4 TX4 8, w ∈ wsX4_readOne := (fun _ h9 => List.mem_cons_of_mem _ (List.mem_append_left _ ((List.mem_append_right _ h9))))
  have hl := lv_entry ([.ref rd, .int 4]) (n := 4) (Nat.le_of_ble_eq_true rfl)
  rw [lg_entry_eq]
  generalize (lg_sl ([.ref rd, .int 4]) ++ List.replicate (4 - (lg_sl ([.ref rd, .int 4])).length) Slot.unset).toArray = ls at hl ⊢
  have hl : lv_has ls 4 [(0, .ref rd), (1, .int 4)] := hl
  obtain ⟨ts_1, te_2, cc_3, ra_4, rb_5, rc_6, rv_7, re_8, ya_9, h1_10, h2_11, h3_12, h4_13, er_14, et_15, ⟨k_16, c9_17, t_18, f_19, e_20, u_21⟩, ⟨k_22, c9_23, t_24, f_25, e_26, u_27⟩⟩ := id R0
  refine lv_aload_n hx hb dX4_readOne_0 rfl (lv_at hl 0 rfl) ?_
  refine va_get (D := D) (ci := 4) (v := .ref tp) (C := RX4) (T := TX4) (N := 8) hx hb hts hin4 hown hK hP krd er_14 rfl 0 (by decide) (hts (.fieldLink RX4 12 "HoneyHouse$RuleReader" "tape" "LHoneyHouse$Tape;") (List.mem_of_getElem? (i := 1) rfl)) (fun _ h9 => h9) rfl dX4_readOne_1 ?_
  refine va_ldcS hx hb hown hsz9.2.2.2.2.2.2.1 dX4_readOne_4 ?_
  have hFc := free_all hD hS hA
  refine va_calli (va_runV (As := [.ref (adK 3)]) (rest := []) ⟨hx, hb, hml, hown, hts⟩ (a_isWord l D ws tys adK adV fo 3 tp ktp tl ya_9 (nI ts_1) (nI te_2) bb k_22 c9_23 t_24 f_25 s.heap.size (by decide) et_15 e_26 u_27) (cwV 1 hts gX4_readOne_X6_isWord rfl rfl rfl (by decide +kernel) ⟨Nat.le_of_ble_eq_true rfl, Nat.le_of_ble_eq_true rfl⟩) ⟨fun a U g mk q => by obtain ⟨q0, q1, qP, qK, qD, qS⟩ := q; exact ⟨q0, q1, qP, va_K.moved (u := U) (U := U.calling g mk a) (Vm.Alike.refl U.vm) qK, qD, SZ.same rfl rfl qS⟩, va_recv hK hP (ci := 6) (q0 := ktp) rfl et_15, fun U hU hW => ⟨rfl, by rw [hU], by rw [hU]; exact hP, va_K.moved hW.alike hK, hD.weaken (fun _ _ _ _ => trivial), hsz9.go hS hW hU hFc⟩⟩ rfl rfl hl.1 rfl (lv_room (Nat.le_of_ble_eq_true rfl)) dX4_readOne_6 ⟨Nat.le_of_ble_eq_true rfl, Nat.le_of_ble_eq_true rfl⟩) hS (fun q _ h => hFc q h) hFc (fun r_28 u t H1 locs ht hvm w_29 hB hz1 hk1 hS => ?_)
  obtain ⟨ws_30, ty_31, hm_32, ht_34, hP1, hK1, hD1, hx_33⟩ := hB
  rw [ht] at hP1
  have hK := va_K.moved hvm.symm hK1
  have hD := hD1.weaken (fun _ _ _ h => hFc _ h)
  generalize H1 = H at hP1 hS ⊢
  have hP := hP1
  have e_35 := hm_32.objK er_14 (by decide)
  have e_36 := hm_32.objK et_15 (by decide)
  obtain ⟨f_38, e_37⟩ := hm_32.arrI e_20
  have u_39 := ht_34 _ _ u_21
  obtain ⟨f_41, e_40⟩ := hm_32.arrI e_26
  have u_42 := ht_34 _ _ u_27
  have hsm := hsm.tr (hm_32.mono (by decide))
  have htx := htx.tr ht_34
  rcases w_29 with rfl | rfl
  · refine lv_istore_n (lv' := [(2, .int 0), (0, .ref rd), (1, .int 4)]) hx hb dX4_readOne_9 rfl hl (by decide) rfl (fun ls hl => ?_)
    refine lv_iload_n hx hb dX4_readOne_10 rfl (lv_at hl 0 rfl) ?_
    refine lv_if_ne (tgt := 31) hx hb dX4_readOne_11 (by decide) (fun c_43 => absurd (by decide) c_43) (fun c_43 => ?_)
    refine lv_aload_n hx hb dX4_readOne_14 rfl (lv_at hl 1 rfl) ?_
    refine va_get (D := D) (ci := 4) (v := .ref tp) (C := RX4) (T := TX4) (N := 8) hx hb hts hin4 hown hK hP krd e_35 rfl 0 (by decide) (hts (.fieldLink RX4 12 "HoneyHouse$RuleReader" "tape" "LHoneyHouse$Tape;") (List.mem_of_getElem? (i := 1) rfl)) (fun _ h9 => h9) rfl dX4_readOne_15 ?_
    refine lv_bipush (v := 40) hx hb dX4_readOne_18 (by decide) ?_
    refine vp_callSi (W.runV (As := [.int 40]) (rest := []) ⟨hx, hb, hml, hown, hts⟩ (s_isByte l D ws_30 ty_31 tp ktp tl ya_9 (nI ts_1) (nI te_2) bb k_22 c9_23 t_24 f_41 40 e_36 e_40 u_42) (cwV 1 hts gX4_readOne_X6_isByte rfl rfl rfl (by decide +kernel) ⟨Nat.le_of_ble_eq_true rfl, Nat.le_of_ble_eq_true rfl⟩) ⟨fun a U g mk q => ⟨q.1, q.2.1, va_K.moved (u := U) (U := U.calling g mk a) (Vm.Alike.refl U.vm) q.2.2⟩, va_recv hK hP (ci := 6) (q0 := ktp) rfl e_36, fun U hU hW => ⟨rfl, by rw [hU]; exact hP, va_K.moved hW.alike hK⟩⟩ rfl rfl hl.1 rfl (lv_room (Nat.le_of_ble_eq_true rfl)) dX4_readOne_20 ⟨Nat.le_of_ble_eq_true rfl, Nat.le_of_ble_eq_true rfl⟩) (fun r_44 k_45 => ?_)
    rcases k_45 with rfl | rfl
    · refine lv_if_ne (tgt := 31) hx hb dX4_readOne_23 (by decide) (fun c_46 => absurd (by decide) c_46) (fun c_46 => ?_)
      refine lv_aload_n hx hb dX4_readOne_26 rfl (lv_at hl 1 rfl) ?_
      have hFc := free_all hD hS hA
      refine va_calli (va_runV (As := []) (rest := []) ⟨hx, hb, hml, hown, hts⟩ (r_readTest l D ws_30 ty_31 adK adV fo rd krd tp ktp cd bb tl  H.size (⟨ts_1, te_2, cc_3, ra_4, rb_5, rc_6, rv_7, re_8, ya_9, by omega, by omega, by omega, by omega, e_35, e_36, ⟨k_16, c9_17, t_18, f_38, e_37, u_39⟩, ⟨k_22, c9_23, t_24, f_41, e_40, u_42⟩⟩ : RS ws_30 ty_31 rd krd tp ktp cd bb tl)) (cwV 0 hts gX4_readOne_X4_readTest rfl rfl rfl (by decide +kernel) ⟨Nat.le_of_ble_eq_true rfl, Nat.le_of_ble_eq_true rfl⟩) ⟨fun a U g mk q => by obtain ⟨q0, q1, qP, qK, qD, qS⟩ := q; exact ⟨q0, q1, qP, va_K.moved (u := U) (U := U.calling g mk a) (Vm.Alike.refl U.vm) qK, qD, SZ.same rfl rfl qS⟩, va_recv hK hP (ci := 4) (q0 := krd) rfl e_35, fun U hU hW => ⟨rfl, by rw [hU], by rw [hU]; exact hP, va_K.moved hW.alike hK, hD.weaken (fun _ _ _ _ => trivial), hsz9.go hS hW hU hFc⟩⟩ rfl rfl hl.1 rfl (lv_room (Nat.le_of_ble_eq_true rfl)) dX4_readOne_27 ⟨Nat.le_of_ble_eq_true rfl, Nat.le_of_ble_eq_true rfl⟩) hS (fun q _ h => hFc q h) hFc (fun r_47 u t H1 locs ht hvm w_48 hB hz1 hk1 hS => ?_)
      obtain ⟨ws_49, ty_50, hm_51, ht_53, hP1, hK1, hD1, hx_52⟩ := hB
      rw [ht] at hP1
      have hK := va_K.moved hvm.symm hK1
      have hD := hD1.weaken (fun _ _ _ h => hFc _ h)
      generalize H1 = H at hP1 hS ⊢
      have hP := hP1
      obtain ⟨g_55, e_54, h_56⟩ := hm_51.obj e_35
      obtain ⟨z_57, z_58, z_59, z_60, z_61, z_62, rfl⟩ := smX4 h_56
      obtain ⟨g_64, e_63, h_65⟩ := hm_51.obj e_36
      obtain ⟨z_66, z_67, z_68, z_69, rfl⟩ := smX6 h_65
      obtain ⟨f_71, e_70⟩ := hm_51.arrI e_37
      have u_72 := ht_53 _ _ u_39
      obtain ⟨f_74, e_73⟩ := hm_51.arrI e_40
      have u_75 := ht_53 _ _ u_42
      have hsm := hsm.tr (hm_51.mono (by decide))
      have htx := htx.tr ht_53
      obtain ⟨ts_76, te_77, cc_78, ra_79, rb_80, rc_81, rv_82, re_83, ya_84, h1_85, h2_86, h3_87, h4_88, er_89, et_90, ⟨k_91, c9_92, t_93, f_94, e_95, u_96⟩, ⟨k_97, c9_98, t_99, f_100, e_101, u_102⟩⟩ := id hx_52
      exact W.zret (v := r_47) hx hb hr (by rcases w_48 with h9 | h9 <;> rw [h9] <;> rfl) (fun t ht hW => ⟨⟨r_47, (), rfl, w_48, ws_49, ty_50, hsm, htx, by rw [ht]; exact hP, va_K.moved hW.alike hK, hD, (⟨ts_76, te_77, cc_78, ra_79, rb_80, rc_81, rv_82, re_83, ya_84, by omega, by omega, by omega, by omega, er_89, et_90, ⟨k_91, c9_92, t_93, f_94, e_95, u_96⟩, ⟨k_97, c9_98, t_99, f_100, e_101, u_102⟩⟩ : RS ws_49 ty_50 rd krd tp ktp cd bb tl)⟩, hS.F ht⟩) hS.2.2 dX4_readOne_30
    refine lv_if_ne (tgt := 31) hx hb dX4_readOne_23 (by decide) (fun c_103 => ?_) (fun c_103 => absurd c_103 (by decide))
    refine lv_iload_n hx hb dX4_readOne_31 rfl (lv_at hl 2 rfl) ?_
    refine lv_bipush (v := 6) hx hb dX4_readOne_32 (by decide) ?_
    refine lv_icmp_lt (tgt := 50) hx hb dX4_readOne_34 (by decide) (fun c_104 => ?_) (fun c_104 => absurd (by decide) c_104)
    refine lv_aload_n hx hb dX4_readOne_50 rfl (lv_at hl 1 rfl) ?_
    refine va_get (D := D) (ci := 4) (v := .ref tp) (C := RX4) (T := TX4) (N := 8) hx hb hts hin4 hown hK hP krd e_35 rfl 0 (by decide) (hts (.fieldLink RX4 12 "HoneyHouse$RuleReader" "tape" "LHoneyHouse$Tape;") (List.mem_of_getElem? (i := 1) rfl)) (fun _ h9 => h9) rfl dX4_readOne_51 ?_
    have hFc := free_all hD hS hA
    refine va_callv (va_runV (As := []) (rest := []) ⟨hx, hb, hml, hown, hts⟩ (a_advance l D ws_30 ty_31 tp ktp tl te_2 ya_9 (nI ts_1) bb k_22 c9_23 t_24 f_41 H.size (by omega) (by omega) e_36 e_40 u_42) (cwV 0 hts gX4_readOne_X6_advance rfl rfl rfl (by decide +kernel) ⟨Nat.le_of_ble_eq_true rfl, Nat.le_of_ble_eq_true rfl⟩) ⟨fun a U g mk q => by obtain ⟨q0, q1, qP, qK, qD⟩ := q; exact ⟨q0, q1, qP, va_K.moved (u := U) (U := U.calling g mk a) (Vm.Alike.refl U.vm) qK, qD⟩, va_recv hK hP (ci := 6) (q0 := ktp) rfl e_36, fun U hU hW => ⟨rfl, by rw [hU], by rw [hU]; exact hP, va_K.moved hW.alike hK, hD.weaken (fun _ _ _ _ => trivial)⟩⟩ rfl rfl hl.1 rfl (lv_room (Nat.le_of_ble_eq_true rfl)) dX4_readOne_54 ⟨Nat.le_of_ble_eq_true rfl, Nat.le_of_ble_eq_true rfl⟩) hS (fun q _ h => hFc q h) hFc (fun u t H1 locs ht hvm w_106 hB hz1 hk1 hS => ?_)
    obtain ⟨ws_107, ty_108, hm_109, ht_111, hP1, hK1, hD1, hx_110⟩ := hB
    rw [ht] at hP1
    have hK := va_K.moved hvm.symm hK1
    have hD := hD1.weaken (fun _ _ _ h => hFc _ h)
    generalize H1 = H at hP1 hS ⊢
    have hP := hP1
    have e_112 := hm_109.objK e_35 (by decide)
    obtain ⟨g_114, e_113, h_115⟩ := hm_109.obj e_36
    obtain ⟨z_116, z_117, z_118, z_119, rfl⟩ := smX6 h_115
    obtain ⟨f_121, e_120⟩ := hm_109.arrI e_37
    have u_122 := ht_111 _ _ u_39
    obtain ⟨f_124, e_123⟩ := hm_109.arrI e_40
    have u_125 := ht_111 _ _ u_42
    have hsm := hsm.tr (hm_109.mono (by decide))
    have htx := htx.tr ht_111
    obtain ⟨k_126, s_127, e_128, h_129, h_130, h_131, e_132⟩ := hx_110
    refine lv_iload_n hx hb dX4_readOne_57 rfl (lv_at hl 0 rfl) ?_
    refine lv_if_ne (tgt := 86) hx hb dX4_readOne_58 (by decide) (fun c_133 => absurd (by decide) c_133) (fun c_133 => ?_)
    refine lv_aload_n hx hb dX4_readOne_61 rfl (lv_at hl 1 rfl) ?_
    refine lv_iload_n hx hb dX4_readOne_62 rfl (lv_at hl 2 rfl) ?_
    refine lv_iconst (v := 1) hx hb dX4_readOne_63 (by decide) ?_
    refine lv_iadd hx hb dX4_readOne_64 ?_
    refine tp_i (y := 5) (by decide) ?_
    have hFc := free_all hD hS hA
    refine va_calli (va_runV (As := [.int 5]) (rest := []) ⟨hx, hb, hml, hown, hts⟩ (r_readEither5 l D ws_107 ty_108 adK adV fo rd krd tp ktp cd bb tl  H.size (⟨s_127, e_128, cc_3, ra_4, rb_5, rc_6, rv_7, re_8, nI k_126, by omega, by omega, by omega, by omega, e_112, e_132, ⟨k_16, c9_17, t_18, f_121, e_120, u_122⟩, ⟨k_22, c9_23, t_24, f_124, e_123, u_125⟩⟩ : RS ws_107 ty_108 rd krd tp ktp cd bb tl)) (cwV 1 hts gX4_readOne_X4_readEither rfl rfl rfl (by decide +kernel) ⟨Nat.le_of_ble_eq_true rfl, Nat.le_of_ble_eq_true rfl⟩) ⟨fun a U g mk q => by obtain ⟨q0, q1, qP, qK, qD, qS⟩ := q; exact ⟨q0, q1, qP, va_K.moved (u := U) (U := U.calling g mk a) (Vm.Alike.refl U.vm) qK, qD, SZ.same rfl rfl qS⟩, va_recv hK hP (ci := 4) (q0 := krd) rfl e_112, fun U hU hW => ⟨rfl, by rw [hU], by rw [hU]; exact hP, va_K.moved hW.alike hK, hD.weaken (fun _ _ _ _ => trivial), hsz9.go hS hW hU hFc⟩⟩ rfl rfl hl.1 rfl (lv_room (Nat.le_of_ble_eq_true rfl)) dX4_readOne_65 ⟨Nat.le_of_ble_eq_true rfl, Nat.le_of_ble_eq_true rfl⟩) hS (fun q _ h => hFc q h) hFc (fun r_134 u t H1 locs ht hvm w_135 hB hz1 hk1 hS => ?_)
    obtain ⟨ws_136, ty_137, hm_138, ht_140, hP1, hK1, hD1, hx_139⟩ := hB
    rw [ht] at hP1
    have hK := va_K.moved hvm.symm hK1
    have hD := hD1.weaken (fun _ _ _ h => hFc _ h)
    generalize H1 = H at hP1 hS ⊢
    have hP := hP1
    obtain ⟨g_142, e_141, h_143⟩ := hm_138.obj e_112
    obtain ⟨z_144, z_145, z_146, z_147, z_148, z_149, rfl⟩ := smX4 h_143
    obtain ⟨g_151, e_150, h_152⟩ := hm_138.obj e_132
    obtain ⟨z_153, z_154, z_155, z_156, rfl⟩ := smX6 h_152
    obtain ⟨f_158, e_157⟩ := hm_138.arrI e_120
    have u_159 := ht_140 _ _ u_122
    obtain ⟨f_161, e_160⟩ := hm_138.arrI e_123
    have u_162 := ht_140 _ _ u_125
    have hsm := hsm.tr (hm_138.mono (by decide))
    have htx := htx.tr ht_140
    obtain ⟨ts_163, te_164, cc_165, ra_166, rb_167, rc_168, rv_169, re_170, ya_171, h1_172, h2_173, h3_174, h4_175, er_176, et_177, ⟨k_178, c9_179, t_180, f_181, e_182, u_183⟩, ⟨k_184, c9_185, t_186, f_187, e_188, u_189⟩⟩ := id hx_139
    refine lv_if_eq (tgt := 84) hx hb dX4_readOne_68 (by decide) (fun c_190 => ?_) (fun c_190 => ?_)
    · refine lv_iconst (v := 0) hx hb dX4_readOne_84 (by decide) ?_
      exact W.zret (v := 0) hx hb hr rfl (fun t ht hW => ⟨⟨0, (), rfl, Or.inl rfl, ws_136, ty_137, hsm, htx, by rw [ht]; exact hP, va_K.moved hW.alike hK, hD, (⟨ts_163, te_164, cc_165, ra_166, rb_167, rc_168, rv_169, re_170, ya_171, by omega, by omega, by omega, by omega, er_176, et_177, ⟨k_178, c9_179, t_180, f_181, e_182, u_183⟩, ⟨k_184, c9_185, t_186, f_187, e_188, u_189⟩⟩ : RS ws_136 ty_137 rd krd tp ktp cd bb tl)⟩, hS.F ht⟩) hS.2.2 dX4_readOne_85
    refine lv_aload_n hx hb dX4_readOne_71 rfl (lv_at hl 1 rfl) ?_
    refine lv_bipush (v := 41) hx hb dX4_readOne_72 (by decide) ?_
    have hFc := free_all hD hS hA
    refine va_calli (va_runV (As := [.int 41]) (rest := []) ⟨hx, hb, hml, hown, hts⟩ (r_readByte l D ws_136 ty_137 adK adV fo rd krd tp ktp cd bb tl 41 H.size (⟨ts_163, te_164, cc_165, ra_166, rb_167, rc_168, rv_169, re_170, ya_171, by omega, by omega, by omega, by omega, er_176, et_177, ⟨k_178, c9_179, t_180, f_181, e_182, u_183⟩, ⟨k_184, c9_185, t_186, f_187, e_188, u_189⟩⟩ : RS ws_136 ty_137 rd krd tp ktp cd bb tl)) (cwV 1 hts gX4_readOne_X4_readByte rfl rfl rfl (by decide +kernel) ⟨Nat.le_of_ble_eq_true rfl, Nat.le_of_ble_eq_true rfl⟩) ⟨fun a U g mk q => by obtain ⟨q0, q1, qP, qK, qD, qS⟩ := q; exact ⟨q0, q1, qP, va_K.moved (u := U) (U := U.calling g mk a) (Vm.Alike.refl U.vm) qK, qD, SZ.same rfl rfl qS⟩, va_recv hK hP (ci := 4) (q0 := krd) rfl er_176, fun U hU hW => ⟨rfl, by rw [hU], by rw [hU]; exact hP, va_K.moved hW.alike hK, hD.weaken (fun _ _ _ _ => trivial), hsz9.go hS hW hU hFc⟩⟩ rfl rfl hl.1 rfl (lv_room (Nat.le_of_ble_eq_true rfl)) dX4_readOne_74 ⟨Nat.le_of_ble_eq_true rfl, Nat.le_of_ble_eq_true rfl⟩) hS (fun q _ h => hFc q h) hFc (fun r_191 u t H1 locs ht hvm w_192 hB hz1 hk1 hS => ?_)
    obtain ⟨ws_193, ty_194, hm_195, ht_197, hP1, hK1, hD1, hx_196⟩ := hB
    rw [ht] at hP1
    have hK := va_K.moved hvm.symm hK1
    have hD := hD1.weaken (fun _ _ _ h => hFc _ h)
    generalize H1 = H at hP1 hS ⊢
    have hP := hP1
    obtain ⟨g_199, e_198, h_200⟩ := hm_195.obj er_176
    obtain ⟨z_201, z_202, z_203, z_204, z_205, z_206, rfl⟩ := smX4 h_200
    obtain ⟨g_208, e_207, h_209⟩ := hm_195.obj et_177
    obtain ⟨z_210, z_211, z_212, z_213, rfl⟩ := smX6 h_209
    obtain ⟨f_215, e_214⟩ := hm_195.arrI e_182
    have u_216 := ht_197 _ _ u_183
    obtain ⟨f_218, e_217⟩ := hm_195.arrI e_188
    have u_219 := ht_197 _ _ u_189
    have hsm := hsm.tr (hm_195.mono (by decide))
    have htx := htx.tr ht_197
    obtain ⟨ts_220, te_221, cc_222, ra_223, rb_224, rc_225, rv_226, re_227, ya_228, h1_229, h2_230, h3_231, h4_232, er_233, et_234, ⟨k_235, c9_236, t_237, f_238, e_239, u_240⟩, ⟨k_241, c9_242, t_243, f_244, e_245, u_246⟩⟩ := id hx_196
    rcases w_192 with rfl | rfl
    · refine lv_if_eq (tgt := 84) hx hb dX4_readOne_77 (by decide) (fun c_247 => ?_) (fun c_247 => absurd (by decide) c_247)
      refine lv_iconst (v := 0) hx hb dX4_readOne_84 (by decide) ?_
      exact W.zret (v := 0) hx hb hr rfl (fun t ht hW => ⟨⟨0, (), rfl, Or.inl rfl, ws_193, ty_194, hsm, htx, by rw [ht]; exact hP, va_K.moved hW.alike hK, hD, (⟨ts_220, te_221, cc_222, ra_223, rb_224, rc_225, rv_226, re_227, ya_228, by omega, by omega, by omega, by omega, er_233, et_234, ⟨k_235, c9_236, t_237, f_238, e_239, u_240⟩, ⟨k_241, c9_242, t_243, f_244, e_245, u_246⟩⟩ : RS ws_193 ty_194 rd krd tp ktp cd bb tl)⟩, hS.F ht⟩) hS.2.2 dX4_readOne_85
    refine lv_if_eq (tgt := 84) hx hb dX4_readOne_77 (by decide) (fun c_248 => absurd c_248 (by decide)) (fun c_248 => ?_)
    refine lv_iconst (v := 1) hx hb dX4_readOne_80 (by decide) ?_
    refine lv_goto (tgt := 85) hx hb dX4_readOne_81 (by decide) ?_
    exact W.zret (v := 1) hx hb hr rfl (fun t ht hW => ⟨⟨1, (), rfl, Or.inr rfl, ws_193, ty_194, hsm, htx, by rw [ht]; exact hP, va_K.moved hW.alike hK, hD, (⟨ts_220, te_221, cc_222, ra_223, rb_224, rc_225, rv_226, re_227, ya_228, by omega, by omega, by omega, by omega, er_233, et_234, ⟨k_235, c9_236, t_237, f_238, e_239, u_240⟩, ⟨k_241, c9_242, t_243, f_244, e_245, u_246⟩⟩ : RS ws_193 ty_194 rd krd tp ktp cd bb tl)⟩, hS.F ht⟩) hS.2.2 dX4_readOne_85
  refine lv_istore_n (lv' := [(2, .int 1), (0, .ref rd), (1, .int 4)]) hx hb dX4_readOne_9 rfl hl (by decide) rfl (fun ls hl => ?_)
  refine lv_iload_n hx hb dX4_readOne_10 rfl (lv_at hl 0 rfl) ?_
  refine lv_if_ne (tgt := 31) hx hb dX4_readOne_11 (by decide) (fun c_249 => ?_) (fun c_249 => absurd c_249 (by decide))
  refine lv_iload_n hx hb dX4_readOne_31 rfl (lv_at hl 2 rfl) ?_
  refine lv_bipush (v := 6) hx hb dX4_readOne_32 (by decide) ?_
  refine lv_icmp_lt (tgt := 50) hx hb dX4_readOne_34 (by decide) (fun c_250 => ?_) (fun c_250 => absurd (by decide) c_250)
  refine lv_aload_n hx hb dX4_readOne_50 rfl (lv_at hl 1 rfl) ?_
  refine va_get (D := D) (ci := 4) (v := .ref tp) (C := RX4) (T := TX4) (N := 8) hx hb hts hin4 hown hK hP krd e_35 rfl 0 (by decide) (hts (.fieldLink RX4 12 "HoneyHouse$RuleReader" "tape" "LHoneyHouse$Tape;") (List.mem_of_getElem? (i := 1) rfl)) (fun _ h9 => h9) rfl dX4_readOne_51 ?_
  have hFc := free_all hD hS hA
  refine va_callv (va_runV (As := []) (rest := []) ⟨hx, hb, hml, hown, hts⟩ (a_advance l D ws_30 ty_31 tp ktp tl te_2 ya_9 (nI ts_1) bb k_22 c9_23 t_24 f_41 H.size (by omega) (by omega) e_36 e_40 u_42) (cwV 0 hts gX4_readOne_X6_advance rfl rfl rfl (by decide +kernel) ⟨Nat.le_of_ble_eq_true rfl, Nat.le_of_ble_eq_true rfl⟩) ⟨fun a U g mk q => by obtain ⟨q0, q1, qP, qK, qD⟩ := q; exact ⟨q0, q1, qP, va_K.moved (u := U) (U := U.calling g mk a) (Vm.Alike.refl U.vm) qK, qD⟩, va_recv hK hP (ci := 6) (q0 := ktp) rfl e_36, fun U hU hW => ⟨rfl, by rw [hU], by rw [hU]; exact hP, va_K.moved hW.alike hK, hD.weaken (fun _ _ _ _ => trivial)⟩⟩ rfl rfl hl.1 rfl (lv_room (Nat.le_of_ble_eq_true rfl)) dX4_readOne_54 ⟨Nat.le_of_ble_eq_true rfl, Nat.le_of_ble_eq_true rfl⟩) hS (fun q _ h => hFc q h) hFc (fun u t H1 locs ht hvm w_252 hB hz1 hk1 hS => ?_)
  obtain ⟨ws_253, ty_254, hm_255, ht_257, hP1, hK1, hD1, hx_256⟩ := hB
  rw [ht] at hP1
  have hK := va_K.moved hvm.symm hK1
  have hD := hD1.weaken (fun _ _ _ h => hFc _ h)
  generalize H1 = H at hP1 hS ⊢
  have hP := hP1
  have e_258 := hm_255.objK e_35 (by decide)
  obtain ⟨g_260, e_259, h_261⟩ := hm_255.obj e_36
  obtain ⟨z_262, z_263, z_264, z_265, rfl⟩ := smX6 h_261
  obtain ⟨f_267, e_266⟩ := hm_255.arrI e_37
  have u_268 := ht_257 _ _ u_39
  obtain ⟨f_270, e_269⟩ := hm_255.arrI e_40
  have u_271 := ht_257 _ _ u_42
  have hsm := hsm.tr (hm_255.mono (by decide))
  have htx := htx.tr ht_257
  obtain ⟨k_272, s_273, e_274, h_275, h_276, h_277, e_278⟩ := hx_256
  refine lv_iload_n hx hb dX4_readOne_57 rfl (lv_at hl 0 rfl) ?_
  refine lv_if_ne (tgt := 86) hx hb dX4_readOne_58 (by decide) (fun c_279 => ?_) (fun c_279 => absurd c_279 (by decide))
  refine lv_aload_n hx hb dX4_readOne_86 rfl (lv_at hl 1 rfl) ?_
  refine lv_iload_n hx hb dX4_readOne_87 rfl (lv_at hl 2 rfl) ?_
  refine lv_iconst (v := 1) hx hb dX4_readOne_88 (by decide) ?_
  refine lv_iadd hx hb dX4_readOne_89 ?_
  refine tp_i (y := 5) (by decide) ?_
  have hFc := free_all hD hS hA
  refine va_calli (va_runV (As := [.int 5]) (rest := []) ⟨hx, hb, hml, hown, hts⟩ (r_readOne5 l D ws_253 ty_254 adK adV fo rd krd tp ktp cd bb tl  H.size (⟨s_273, e_274, cc_3, ra_4, rb_5, rc_6, rv_7, re_8, nI k_272, by omega, by omega, by omega, by omega, e_258, e_278, ⟨k_16, c9_17, t_18, f_267, e_266, u_268⟩, ⟨k_22, c9_23, t_24, f_270, e_269, u_271⟩⟩ : RS ws_253 ty_254 rd krd tp ktp cd bb tl)) (cwV 1 hts gX4_readOne_X4_readOne rfl rfl rfl (by decide +kernel) ⟨Nat.le_of_ble_eq_true rfl, Nat.le_of_ble_eq_true rfl⟩) ⟨fun a U g mk q => by obtain ⟨q0, q1, qP, qK, qD, qS⟩ := q; exact ⟨q0, q1, qP, va_K.moved (u := U) (U := U.calling g mk a) (Vm.Alike.refl U.vm) qK, qD, SZ.same rfl rfl qS⟩, va_recv hK hP (ci := 4) (q0 := krd) rfl e_258, fun U hU hW => ⟨rfl, by rw [hU], by rw [hU]; exact hP, va_K.moved hW.alike hK, hD.weaken (fun _ _ _ _ => trivial), hsz9.go hS hW hU hFc⟩⟩ rfl rfl hl.1 rfl (lv_room (Nat.le_of_ble_eq_true rfl)) dX4_readOne_90 ⟨Nat.le_of_ble_eq_true rfl, Nat.le_of_ble_eq_true rfl⟩) hS (fun q _ h => hFc q h) hFc (fun r_280 u t H1 locs ht hvm w_281 hB hz1 hk1 hS => ?_)
  obtain ⟨ws_282, ty_283, hm_284, ht_286, hP1, hK1, hD1, hx_285⟩ := hB
  rw [ht] at hP1
  have hK := va_K.moved hvm.symm hK1
  have hD := hD1.weaken (fun _ _ _ h => hFc _ h)
  generalize H1 = H at hP1 hS ⊢
  have hP := hP1
  obtain ⟨g_288, e_287, h_289⟩ := hm_284.obj e_258
  obtain ⟨z_290, z_291, z_292, z_293, z_294, z_295, rfl⟩ := smX4 h_289
  obtain ⟨g_297, e_296, h_298⟩ := hm_284.obj e_278
  obtain ⟨z_299, z_300, z_301, z_302, rfl⟩ := smX6 h_298
  obtain ⟨f_304, e_303⟩ := hm_284.arrI e_266
  have u_305 := ht_286 _ _ u_268
  obtain ⟨f_307, e_306⟩ := hm_284.arrI e_269
  have u_308 := ht_286 _ _ u_271
  have hsm := hsm.tr (hm_284.mono (by decide))
  have htx := htx.tr ht_286
  obtain ⟨ts_309, te_310, cc_311, ra_312, rb_313, rc_314, rv_315, re_316, ya_317, h1_318, h2_319, h3_320, h4_321, er_322, et_323, ⟨k_324, c9_325, t_326, f_327, e_328, u_329⟩, ⟨k_330, c9_331, t_332, f_333, e_334, u_335⟩⟩ := id hx_285
  refine lv_istore_n (lv' := [(3, .int r_280), (2, .int 1), (0, .ref rd), (1, .int 4)]) hx hb dX4_readOne_93 rfl hl (by decide) rfl (fun ls hl => ?_)
  refine lv_aload_n hx hb dX4_readOne_94 rfl (lv_at hl 2 rfl) ?_
  refine lv_iconst (v := (-1)) hx hb dX4_readOne_95 (by decide) ?_
  have hFc := free_all hD hS hA
  refine va_callv (va_runV (As := [.int (-1)]) (rest := []) ⟨hx, hb, hml, hown, hts⟩ (r_addCode l D ws_282 ty_283 adK adV fo rd krd tp ktp cd bb tl (-1) H.size (⟨ts_309, te_310, cc_311, ra_312, rb_313, rc_314, rv_315, re_316, ya_317, by omega, by omega, by omega, by omega, er_322, et_323, ⟨k_324, c9_325, t_326, f_327, e_328, u_329⟩, ⟨k_330, c9_331, t_332, f_333, e_334, u_335⟩⟩ : RS ws_282 ty_283 rd krd tp ktp cd bb tl)) (cwV 1 hts gX4_readOne_X4_addCode rfl rfl rfl (by decide +kernel) ⟨Nat.le_of_ble_eq_true rfl, Nat.le_of_ble_eq_true rfl⟩) ⟨fun a U g mk q => by obtain ⟨q0, q1, qP, qK, qD, qS⟩ := q; exact ⟨q0, q1, qP, va_K.moved (u := U) (U := U.calling g mk a) (Vm.Alike.refl U.vm) qK, qD, SZ.same rfl rfl qS⟩, va_recv hK hP (ci := 4) (q0 := krd) rfl er_322, fun U hU hW => ⟨rfl, by rw [hU], by rw [hU]; exact hP, va_K.moved hW.alike hK, hD.weaken (fun _ _ _ _ => trivial), hsz9.go hS hW hU hFc⟩⟩ rfl rfl hl.1 rfl (lv_room (Nat.le_of_ble_eq_true rfl)) dX4_readOne_96 ⟨Nat.le_of_ble_eq_true rfl, Nat.le_of_ble_eq_true rfl⟩) hS (fun q _ h => hFc q h) hFc (fun u t H1 locs ht hvm w_337 hB hz1 hk1 hS => ?_)
  obtain ⟨ws_338, ty_339, hm_340, ht_342, hP1, hK1, hD1, hx_341⟩ := hB
  rw [ht] at hP1
  have hK := va_K.moved hvm.symm hK1
  have hD := hD1.weaken (fun _ _ _ h => hFc _ h)
  generalize H1 = H at hP1 hS ⊢
  have hP := hP1
  obtain ⟨g_344, e_343, h_345⟩ := hm_340.obj er_322
  obtain ⟨z_346, z_347, z_348, z_349, z_350, z_351, rfl⟩ := smX4 h_345
  obtain ⟨g_353, e_352, h_354⟩ := hm_340.obj et_323
  obtain ⟨z_355, z_356, z_357, z_358, rfl⟩ := smX6 h_354
  obtain ⟨f_360, e_359⟩ := hm_340.arrI e_328
  have u_361 := ht_342 _ _ u_329
  obtain ⟨f_363, e_362⟩ := hm_340.arrI e_334
  have u_364 := ht_342 _ _ u_335
  have hsm := hsm.tr (hm_340.mono (by decide))
  have htx := htx.tr ht_342
  obtain ⟨ts_365, te_366, cc_367, ra_368, rb_369, rc_370, rv_371, re_372, ya_373, h1_374, h2_375, h3_376, h4_377, er_378, et_379, ⟨k_380, c9_381, t_382, f_383, e_384, u_385⟩, ⟨k_386, c9_387, t_388, f_389, e_390, u_391⟩⟩ := id hx_341
  refine lv_iload_n hx hb dX4_readOne_99 rfl (lv_at hl 0 rfl) ?_
  exact W.zret (v := r_280) hx hb hr (by rcases w_281 with h9 | h9 <;> rw [h9] <;> rfl) (fun t ht hW => ⟨⟨r_280, (), rfl, w_281, ws_338, ty_339, hsm, htx, by rw [ht]; exact hP, va_K.moved hW.alike hK, hD, (⟨ts_365, te_366, cc_367, ra_368, rb_369, rc_370, rv_371, re_372, ya_373, by omega, by omega, by omega, by omega, er_378, et_379, ⟨k_380, c9_381, t_382, f_383, e_384, u_385⟩, ⟨k_386, c9_387, t_388, f_389, e_390, u_391⟩⟩ : RS ws_338 ty_339 rd krd tp ktp cd bb tl)⟩, hS.F ht⟩) hS.2.2 dX4_readOne_100
set_option maxHeartbeats 4000000 in
set_option maxRecDepth 100000 in
theorem r_readEither4 (l : Launch) (D : va_G) (ws : va_W) (tys : List (ClassId × FieldType)) (adK adV : Nat → Nat) (fo : Option Nat) (rd krd tp ktp cd bb tl : Nat)  (sz : Nat) (R0 : RS ws tys rd krd tp ktp cd bb tl)  : Met l yX4_readEither wsX4_readEither ({ frames := 12, cells := 0, slots := 0, locals := 268 }) (va_Pc [.ref rd, .int 4] (fun U => U.heap.size = sz ∧ va_P D vwCl ws U.heap ∧ va_K D vwCl tys U ∧ va_D (fun _ => True) ws ∧ SZ adK adV fo (va_A ws sz) U U.heap)) (va_Qi (fun (r : Int32) (_ : Unit) => r = 0 ∨ r = 1) (fun (_ : Unit) (t : State) => ∃ (ws' : va_W) (tys' : List (ClassId × FieldType)), sm [4, 6] ws ws' ∧ tyx tys tys' ∧ va_P D vwCl ws' t.heap ∧ va_K D vwCl tys' t ∧ va_D (va_A ws sz) ws' ∧ RS ws' tys' rd krd tp ktp cd bb tl) (va_A ws sz)) 0 0 (va_A ws sz) := by
  refine Met.ofW (cc := cX4_readEither) (maxL := 6) (ret := (some .boolean)) (by decide) rfl ?_
  intro p e s m args below meth c s₁ B hml hv
  obtain ⟨rfl, hsz, hP, hK, hD0, hsz9⟩ := hv
  have hx := B.exec
  have hb := B.bytes
  have hr := B.returns
  have hts := atoms_spec (ws := wsX4_readEither) B.pre
  have hown : s.vm.findClass RX4 = some m.cls := findClass_of_methodNamed B.named
  have hlocks := B.notSynchronized
  subst hsz
  have hD := hD0.self (sz := s.heap.size)
  generalize hAe : va_A ws s.heap.size = A at hD hsz9 ⊢
  have hA : ∀ q : Nat, s.heap.size ≤ q → A q := fun q h => by rw [← hAe]; exact Or.inr h
  have hS : va_S A s.heap s.heap [] := va_S.rf
  have hsm : sm [4, 6] ws ws := sm.rf ws
  have htx : tyx tys tys := tyx.rf tys
  have hin4 : ∀ w ∈ u_ws RX4 TX4 8, w ∈ wsX4_readEither := (fun _ h9 => List.mem_cons_of_mem _ (List.mem_append_left _ ((List.mem_append_right _ h9))))
  have hl := lv_entry ([.ref rd, .int 4]) (n := 6) (Nat.le_of_ble_eq_true rfl)
  rw [lg_entry_eq]
  generalize (lg_sl ([.ref rd, .int 4]) ++ List.replicate (6 - (lg_sl ([.ref rd, .int 4])).length) Slot.unset).toArray = ls at hl ⊢
  have hl : lv_has ls 6 [(0, .ref rd), (1, .int 4)] := hl
  obtain ⟨ts_1, te_2, cc_3, ra_4, rb_5, rc_6, rv_7, re_8, ya_9, h1_10, h2_11, h3_12, h4_13, er_14, et_15, ⟨k_16, c9_17, t_18, f_19, e_20, u_21⟩, ⟨k_22, c9_23, t_24, f_25, e_26, u_27⟩⟩ := id R0
  refine lv_aload_n hx hb dX4_readEither_0 rfl (lv_at hl 0 rfl) ?_
  refine lv_iload_n hx hb dX4_readEither_1 rfl (lv_at hl 1 rfl) ?_
  have hFc := free_all hD hS hA
  refine va_calli (va_runV (As := [.int 4]) (rest := []) ⟨hx, hb, hml, hown, hts⟩ (r_readOne4 l D ws tys adK adV fo rd krd tp ktp cd bb tl  s.heap.size (⟨ts_1, te_2, cc_3, ra_4, rb_5, rc_6, rv_7, re_8, ya_9, by omega, by omega, by omega, by omega, er_14, et_15, ⟨k_16, c9_17, t_18, f_19, e_20, u_21⟩, ⟨k_22, c9_23, t_24, f_25, e_26, u_27⟩⟩ : RS ws tys rd krd tp ktp cd bb tl)) (cwV 1 hts gX4_readEither_X4_readOne rfl rfl rfl (by decide +kernel) ⟨Nat.le_of_ble_eq_true rfl, Nat.le_of_ble_eq_true rfl⟩) ⟨fun a U g mk q => by obtain ⟨q0, q1, qP, qK, qD, qS⟩ := q; exact ⟨q0, q1, qP, va_K.moved (u := U) (U := U.calling g mk a) (Vm.Alike.refl U.vm) qK, qD, SZ.same rfl rfl qS⟩, va_recv hK hP (ci := 4) (q0 := krd) rfl er_14, fun U hU hW => ⟨rfl, by rw [hU], by rw [hU]; exact hP, va_K.moved hW.alike hK, hD.weaken (fun _ _ _ _ => trivial), hsz9.go hS hW hU hFc⟩⟩ rfl rfl hl.1 rfl (lv_room (Nat.le_of_ble_eq_true rfl)) dX4_readEither_2 ⟨Nat.le_of_ble_eq_true rfl, Nat.le_of_ble_eq_true rfl⟩) hS (fun q _ h => hFc q h) hFc (fun r_28 u t H1 locs ht hvm w_29 hB hz1 hk1 hS => ?_)
  obtain ⟨ws_30, ty_31, hm_32, ht_34, hP1, hK1, hD1, hx_33⟩ := hB
  rw [ht] at hP1
  have hK := va_K.moved hvm.symm hK1
  have hD := hD1.weaken (fun _ _ _ h => hFc _ h)
  generalize H1 = H at hP1 hS ⊢
  have hP := hP1
  obtain ⟨g_36, e_35, h_37⟩ := hm_32.obj er_14
  obtain ⟨z_38, z_39, z_40, z_41, z_42, z_43, rfl⟩ := smX4 h_37
  obtain ⟨g_45, e_44, h_46⟩ := hm_32.obj et_15
  obtain ⟨z_47, z_48, z_49, z_50, rfl⟩ := smX6 h_46
  obtain ⟨f_52, e_51⟩ := hm_32.arrI e_20
  have u_53 := ht_34 _ _ u_21
  obtain ⟨f_55, e_54⟩ := hm_32.arrI e_26
  have u_56 := ht_34 _ _ u_27
  have hsm := hsm.tr (hm_32.mono (by decide))
  have htx := htx.tr ht_34
  obtain ⟨ts_57, te_58, cc_59, ra_60, rb_61, rc_62, rv_63, re_64, ya_65, h1_66, h2_67, h3_68, h4_69, er_70, et_71, ⟨k_72, c9_73, t_74, f_75, e_76, u_77⟩, ⟨k_78, c9_79, t_80, f_81, e_82, u_83⟩⟩ := id hx_33
  refine lv_istore_n (lv' := [(2, .int r_28), (0, .ref rd), (1, .int 4)]) hx hb dX4_readEither_5 rfl hl (by decide) rfl (fun ls hl => ?_)
  refine lv_iconst (v := 0) hx hb dX4_readEither_6 (by decide) ?_
  refine lv_istore_n (lv' := [(3, .int 0), (2, .int r_28), (0, .ref rd), (1, .int 4)]) hx hb dX4_readEither_7 rfl hl (by decide) rfl (fun ls hl => ?_)
  refine lv_iconst (v := 0) hx hb dX4_readEither_8 (by decide) ?_
  refine lv_istore (lv' := [(4, .int 0), (3, .int 0), (2, .int r_28), (0, .ref rd), (1, .int 4)]) hx hb dX4_readEither_9 hl (by decide) rfl (fun ls hl => ?_)
  refine lp_V (nL := 6) (σ := Nat × Int32 × Int32) (lv := fun x9 => [(4, .int (nI x9.1)), (2, .int x9.2.1), (3, .int x9.2.2), (1, .int 4), (0, .ref rd)]) (μ := fun x9 => 400 - x9.1) (J := fun x9 ws9 => sm [4, 6] ws_30 ws9 ∧ (RS ws9 ty_31 rd krd tp ktp cd bb tl) ∧ (x9.1 ≤ 400) ∧ (x9.2.1 = 0 ∨ x9.2.1 = 1) ∧ (x9.2.2 = 0 ∨ x9.2.2 = 1)) (fun x9 ws_91 H locs ls hj hP hD hS hl ih_84 => ?_) (0, r_28, 0) ws_30 _ _ ls ⟨sm.rf _, (⟨ts_57, te_58, cc_59, ra_60, rb_61, rc_62, rv_63, re_64, ya_65, by omega, by omega, by omega, by omega, er_70, et_71, ⟨k_72, c9_73, t_74, f_75, e_76, u_77⟩, ⟨k_78, c9_79, t_80, f_81, e_82, u_83⟩⟩ : RS ws_30 ty_31 rd krd tp ktp cd bb tl), (show 0 ≤ 400 from by omega), (show r_28 = 0 ∨ r_28 = 1 from w_29), (show 0 = 0 ∨ 0 = 1 from Or.inl rfl)⟩ hP hD hS (lv_sub hl [0, 2, 1, 4, 3] rfl)
  obtain ⟨i_85, x_86, y_87⟩ := x9
  have hj : sm [4, 6] ws_30 ws_91 ∧ (RS ws_91 ty_31 rd krd tp ktp cd bb tl) ∧ (i_85 ≤ 400) ∧ (x_86 = 0 ∨ x_86 = 1) ∧ (y_87 = 0 ∨ y_87 = 1) := hj
  obtain ⟨hm_92, hR_94, hi_88, hbx_89, hby_90⟩ := hj
  obtain ⟨g_96, e_95, h_97⟩ := hm_92.obj er_70
  obtain ⟨z_98, z_99, z_100, z_101, z_102, z_103, rfl⟩ := smX4 h_97
  obtain ⟨g_105, e_104, h_106⟩ := hm_92.obj et_71
  obtain ⟨z_107, z_108, z_109, z_110, rfl⟩ := smX6 h_106
  obtain ⟨f_112, e_111⟩ := hm_92.arrI e_76
  obtain ⟨f_114, e_113⟩ := hm_92.arrI e_82
  have hsm := hsm.tr (hm_92.mono (by decide))
  obtain ⟨ts_115, te_116, cc_117, ra_118, rb_119, rc_120, rv_121, re_122, ya_123, h1_124, h2_125, h3_126, h4_127, er_128, et_129, ⟨k_130, c9_131, t_132, f_133, e_134, u_135⟩, ⟨k_136, c9_137, t_138, f_139, e_140, u_141⟩⟩ := id hR_94
  have hlp_93 := hm_92
  have hl : lv_has ls 6 [(4, .int (nI i_85)), (2, .int x_86), (3, .int y_87), (1, .int 4), (0, .ref rd)] := hl
  refine lv_iload hx hb dX4_readEither_11 (lv_at hl 0 rfl) ?_
  refine lv_sipush (v := 400) hx hb dX4_readEither_13 (by decide) ?_
  refine lv_icmp_ge (tgt := 101) hx hb dX4_readEither_16 (by decide) (fun c_142 => ?_) (fun c_142 => ?_)
  · have d_143 := n_le (a := 400) (b := i_85) (by omega) (by omega) c_142
    refine lv_iload_n hx hb dX4_readEither_101 rfl (lv_at hl 2 rfl) ?_
    refine lv_if_eq (tgt := 111) hx hb dX4_readEither_102 (by decide) (fun c_144 => ?_) (fun c_144 => ?_)
    · refine lv_iload_n hx hb dX4_readEither_111 rfl (lv_at hl 1 rfl) ?_
      exact W.zret (v := x_86) hx hb hr (by rcases hbx_89 with h9 | h9 <;> rw [h9] <;> rfl) (fun t ht hW => ⟨⟨x_86, (), rfl, hbx_89, ws_91, ty_31, hsm, htx, by rw [ht]; exact hP, va_K.moved hW.alike hK, hD, (⟨ts_115, te_116, cc_117, ra_118, rb_119, rc_120, rv_121, re_122, ya_123, by omega, by omega, by omega, by omega, er_128, et_129, ⟨k_130, c9_131, t_132, f_133, e_134, u_135⟩, ⟨k_136, c9_137, t_138, f_139, e_140, u_141⟩⟩ : RS ws_91 ty_31 rd krd tp ktp cd bb tl)⟩, hS.F ht⟩) hS.2.2 dX4_readEither_112
    refine lv_aload_n hx hb dX4_readEither_105 rfl (lv_at hl 4 rfl) ?_
    refine lv_bipush (v := (-3)) hx hb dX4_readEither_106 (by decide) ?_
    have hFc := free_all hD hS hA
    refine va_callv (va_runV (As := [.int (-3)]) (rest := []) ⟨hx, hb, hml, hown, hts⟩ (r_addCode l D ws_91 ty_31 adK adV fo rd krd tp ktp cd bb tl (-3) H.size (⟨ts_115, te_116, cc_117, ra_118, rb_119, rc_120, rv_121, re_122, ya_123, by omega, by omega, by omega, by omega, er_128, et_129, ⟨k_130, c9_131, t_132, f_133, e_134, u_135⟩, ⟨k_136, c9_137, t_138, f_139, e_140, u_141⟩⟩ : RS ws_91 ty_31 rd krd tp ktp cd bb tl)) (cwV 1 hts gX4_readEither_X4_addCode rfl rfl rfl (by decide +kernel) ⟨Nat.le_of_ble_eq_true rfl, Nat.le_of_ble_eq_true rfl⟩) ⟨fun a U g mk q => by obtain ⟨q0, q1, qP, qK, qD, qS⟩ := q; exact ⟨q0, q1, qP, va_K.moved (u := U) (U := U.calling g mk a) (Vm.Alike.refl U.vm) qK, qD, SZ.same rfl rfl qS⟩, va_recv hK hP (ci := 4) (q0 := krd) rfl er_128, fun U hU hW => ⟨rfl, by rw [hU], by rw [hU]; exact hP, va_K.moved hW.alike hK, hD.weaken (fun _ _ _ _ => trivial), hsz9.go hS hW hU hFc⟩⟩ rfl rfl hl.1 rfl (lv_room (Nat.le_of_ble_eq_true rfl)) dX4_readEither_108 ⟨Nat.le_of_ble_eq_true rfl, Nat.le_of_ble_eq_true rfl⟩) hS (fun q _ h => hFc q h) hFc (fun u t H1 locs ht hvm w_146 hB hz1 hk1 hS => ?_)
    obtain ⟨ws_147, ty_148, hm_149, ht_151, hP1, hK1, hD1, hx_150⟩ := hB
    rw [ht] at hP1
    have hK := va_K.moved hvm.symm hK1
    have hD := hD1.weaken (fun _ _ _ h => hFc _ h)
    generalize H1 = H at hP1 hS ⊢
    have hP := hP1
    obtain ⟨g_153, e_152, h_154⟩ := hm_149.obj er_128
    obtain ⟨z_155, z_156, z_157, z_158, z_159, z_160, rfl⟩ := smX4 h_154
    obtain ⟨g_162, e_161, h_163⟩ := hm_149.obj et_129
    obtain ⟨z_164, z_165, z_166, z_167, rfl⟩ := smX6 h_163
    obtain ⟨f_169, e_168⟩ := hm_149.arrI e_134
    have u_170 := ht_151 _ _ u_135
    obtain ⟨f_172, e_171⟩ := hm_149.arrI e_140
    have u_173 := ht_151 _ _ u_141
    have hsm := hsm.tr (hm_149.mono (by decide))
    have hlp_93 := hlp_93.tr (hm_149.mono (by decide))
    have htx := htx.tr ht_151
    obtain ⟨ts_174, te_175, cc_176, ra_177, rb_178, rc_179, rv_180, re_181, ya_182, h1_183, h2_184, h3_185, h4_186, er_187, et_188, ⟨k_189, c9_190, t_191, f_192, e_193, u_194⟩, ⟨k_195, c9_196, t_197, f_198, e_199, u_200⟩⟩ := id hx_150
    refine lv_iload_n hx hb dX4_readEither_111 rfl (lv_at hl 1 rfl) ?_
    exact W.zret (v := x_86) hx hb hr (by rcases hbx_89 with h9 | h9 <;> rw [h9] <;> rfl) (fun t ht hW => ⟨⟨x_86, (), rfl, hbx_89, ws_147, ty_148, hsm, htx, by rw [ht]; exact hP, va_K.moved hW.alike hK, hD, (⟨ts_174, te_175, cc_176, ra_177, rb_178, rc_179, rv_180, re_181, ya_182, by omega, by omega, by omega, by omega, er_187, et_188, ⟨k_189, c9_190, t_191, f_192, e_193, u_194⟩, ⟨k_195, c9_196, t_197, f_198, e_199, u_200⟩⟩ : RS ws_147 ty_148 rd krd tp ktp cd bb tl)⟩, hS.F ht⟩) hS.2.2 dX4_readEither_112
  have d_201 := n_nle (a := 400) (b := i_85) (by omega) (by omega) c_142
  refine lv_iload_n hx hb dX4_readEither_19 rfl (lv_at hl 1 rfl) ?_
  refine lv_if_eq (tgt := 101) hx hb dX4_readEither_20 (by decide) (fun c_202 => ?_) (fun c_202 => ?_)
  · refine lv_iload_n hx hb dX4_readEither_101 rfl (lv_at hl 2 rfl) ?_
    refine lv_if_eq (tgt := 111) hx hb dX4_readEither_102 (by decide) (fun c_203 => ?_) (fun c_203 => ?_)
    · refine lv_iload_n hx hb dX4_readEither_111 rfl (lv_at hl 1 rfl) ?_
      exact W.zret (v := x_86) hx hb hr (by rcases hbx_89 with h9 | h9 <;> rw [h9] <;> rfl) (fun t ht hW => ⟨⟨x_86, (), rfl, hbx_89, ws_91, ty_31, hsm, htx, by rw [ht]; exact hP, va_K.moved hW.alike hK, hD, (⟨ts_115, te_116, cc_117, ra_118, rb_119, rc_120, rv_121, re_122, ya_123, by omega, by omega, by omega, by omega, er_128, et_129, ⟨k_130, c9_131, t_132, f_133, e_134, u_135⟩, ⟨k_136, c9_137, t_138, f_139, e_140, u_141⟩⟩ : RS ws_91 ty_31 rd krd tp ktp cd bb tl)⟩, hS.F ht⟩) hS.2.2 dX4_readEither_112
    refine lv_aload_n hx hb dX4_readEither_105 rfl (lv_at hl 4 rfl) ?_
    refine lv_bipush (v := (-3)) hx hb dX4_readEither_106 (by decide) ?_
    have hFc := free_all hD hS hA
    refine va_callv (va_runV (As := [.int (-3)]) (rest := []) ⟨hx, hb, hml, hown, hts⟩ (r_addCode l D ws_91 ty_31 adK adV fo rd krd tp ktp cd bb tl (-3) H.size (⟨ts_115, te_116, cc_117, ra_118, rb_119, rc_120, rv_121, re_122, ya_123, by omega, by omega, by omega, by omega, er_128, et_129, ⟨k_130, c9_131, t_132, f_133, e_134, u_135⟩, ⟨k_136, c9_137, t_138, f_139, e_140, u_141⟩⟩ : RS ws_91 ty_31 rd krd tp ktp cd bb tl)) (cwV 1 hts gX4_readEither_X4_addCode rfl rfl rfl (by decide +kernel) ⟨Nat.le_of_ble_eq_true rfl, Nat.le_of_ble_eq_true rfl⟩) ⟨fun a U g mk q => by obtain ⟨q0, q1, qP, qK, qD, qS⟩ := q; exact ⟨q0, q1, qP, va_K.moved (u := U) (U := U.calling g mk a) (Vm.Alike.refl U.vm) qK, qD, SZ.same rfl rfl qS⟩, va_recv hK hP (ci := 4) (q0 := krd) rfl er_128, fun U hU hW => ⟨rfl, by rw [hU], by rw [hU]; exact hP, va_K.moved hW.alike hK, hD.weaken (fun _ _ _ _ => trivial), hsz9.go hS hW hU hFc⟩⟩ rfl rfl hl.1 rfl (lv_room (Nat.le_of_ble_eq_true rfl)) dX4_readEither_108 ⟨Nat.le_of_ble_eq_true rfl, Nat.le_of_ble_eq_true rfl⟩) hS (fun q _ h => hFc q h) hFc (fun u t H1 locs ht hvm w_205 hB hz1 hk1 hS => ?_)
    obtain ⟨ws_206, ty_207, hm_208, ht_210, hP1, hK1, hD1, hx_209⟩ := hB
    rw [ht] at hP1
    have hK := va_K.moved hvm.symm hK1
    have hD := hD1.weaken (fun _ _ _ h => hFc _ h)
    generalize H1 = H at hP1 hS ⊢
    have hP := hP1
    obtain ⟨g_212, e_211, h_213⟩ := hm_208.obj er_128
    obtain ⟨z_214, z_215, z_216, z_217, z_218, z_219, rfl⟩ := smX4 h_213
    obtain ⟨g_221, e_220, h_222⟩ := hm_208.obj et_129
    obtain ⟨z_223, z_224, z_225, z_226, rfl⟩ := smX6 h_222
    obtain ⟨f_228, e_227⟩ := hm_208.arrI e_134
    have u_229 := ht_210 _ _ u_135
    obtain ⟨f_231, e_230⟩ := hm_208.arrI e_140
    have u_232 := ht_210 _ _ u_141
    have hsm := hsm.tr (hm_208.mono (by decide))
    have hlp_93 := hlp_93.tr (hm_208.mono (by decide))
    have htx := htx.tr ht_210
    obtain ⟨ts_233, te_234, cc_235, ra_236, rb_237, rc_238, rv_239, re_240, ya_241, h1_242, h2_243, h3_244, h4_245, er_246, et_247, ⟨k_248, c9_249, t_250, f_251, e_252, u_253⟩, ⟨k_254, c9_255, t_256, f_257, e_258, u_259⟩⟩ := id hx_209
    refine lv_iload_n hx hb dX4_readEither_111 rfl (lv_at hl 1 rfl) ?_
    exact W.zret (v := x_86) hx hb hr (by rcases hbx_89 with h9 | h9 <;> rw [h9] <;> rfl) (fun t ht hW => ⟨⟨x_86, (), rfl, hbx_89, ws_206, ty_207, hsm, htx, by rw [ht]; exact hP, va_K.moved hW.alike hK, hD, (⟨ts_233, te_234, cc_235, ra_236, rb_237, rc_238, rv_239, re_240, ya_241, by omega, by omega, by omega, by omega, er_246, et_247, ⟨k_248, c9_249, t_250, f_251, e_252, u_253⟩, ⟨k_254, c9_255, t_256, f_257, e_258, u_259⟩⟩ : RS ws_206 ty_207 rd krd tp ktp cd bb tl)⟩, hS.F ht⟩) hS.2.2 dX4_readEither_112
  refine lv_aload_n hx hb dX4_readEither_23 rfl (lv_at hl 4 rfl) ?_
  have hFc := free_all hD hS hA
  refine va_calli (va_runV (As := []) (rest := []) ⟨hx, hb, hml, hown, hts⟩ (r_isAndOr l D ws_91 ty_31 adK adV fo rd krd tp ktp cd bb tl  H.size (⟨ts_115, te_116, cc_117, ra_118, rb_119, rc_120, rv_121, re_122, ya_123, by omega, by omega, by omega, by omega, er_128, et_129, ⟨k_130, c9_131, t_132, f_133, e_134, u_135⟩, ⟨k_136, c9_137, t_138, f_139, e_140, u_141⟩⟩ : RS ws_91 ty_31 rd krd tp ktp cd bb tl)) (cwV 0 hts gX4_readEither_X4_isAndOr rfl rfl rfl (by decide +kernel) ⟨Nat.le_of_ble_eq_true rfl, Nat.le_of_ble_eq_true rfl⟩) ⟨fun a U g mk q => by obtain ⟨q0, q1, qP, qK, qD, qS⟩ := q; exact ⟨q0, q1, qP, va_K.moved (u := U) (U := U.calling g mk a) (Vm.Alike.refl U.vm) qK, qD, SZ.same rfl rfl qS⟩, va_recv hK hP (ci := 4) (q0 := krd) rfl er_128, fun U hU hW => ⟨rfl, by rw [hU], by rw [hU]; exact hP, va_K.moved hW.alike hK, hD.weaken (fun _ _ _ _ => trivial), hsz9.go hS hW hU hFc⟩⟩ rfl rfl hl.1 rfl (lv_room (Nat.le_of_ble_eq_true rfl)) dX4_readEither_24 ⟨Nat.le_of_ble_eq_true rfl, Nat.le_of_ble_eq_true rfl⟩) hS (fun q _ h => hFc q h) hFc (fun r_260 u t H1 locs ht hvm w_261 hB hz1 hk1 hS => ?_)
  obtain ⟨ws_262, ty_263, hm_264, ht_266, hP1, hK1, hD1, hx_265⟩ := hB
  rw [ht] at hP1
  have hK := va_K.moved hvm.symm hK1
  have hD := hD1.weaken (fun _ _ _ h => hFc _ h)
  generalize H1 = H at hP1 hS ⊢
  have hP := hP1
  have e_267 := hm_264.objK er_128 (by decide)
  have e_268 := hm_264.objK et_129 (by decide)
  obtain ⟨f_270, e_269⟩ := hm_264.arrI e_134
  have u_271 := ht_266 _ _ u_135
  obtain ⟨f_273, e_272⟩ := hm_264.arrI e_140
  have u_274 := ht_266 _ _ u_141
  have hsm := hsm.tr (hm_264.mono (by decide))
  have hlp_93 := hlp_93.tr (hm_264.mono (by decide))
  have htx := htx.tr ht_266
  rcases w_261 with rfl | rfl
  · refine lv_if_eq (tgt := 101) hx hb dX4_readEither_27 (by decide) (fun c_275 => ?_) (fun c_275 => absurd (by decide) c_275)
    refine lv_iload_n hx hb dX4_readEither_101 rfl (lv_at hl 2 rfl) ?_
    refine lv_if_eq (tgt := 111) hx hb dX4_readEither_102 (by decide) (fun c_276 => ?_) (fun c_276 => ?_)
    · refine lv_iload_n hx hb dX4_readEither_111 rfl (lv_at hl 1 rfl) ?_
      exact W.zret (v := x_86) hx hb hr (by rcases hbx_89 with h9 | h9 <;> rw [h9] <;> rfl) (fun t ht hW => ⟨⟨x_86, (), rfl, hbx_89, ws_262, ty_263, hsm, htx, by rw [ht]; exact hP, va_K.moved hW.alike hK, hD, (⟨ts_115, te_116, cc_117, ra_118, rb_119, rc_120, rv_121, re_122, ya_123, by omega, by omega, by omega, by omega, e_267, e_268, ⟨k_130, c9_131, t_132, f_270, e_269, u_271⟩, ⟨k_136, c9_137, t_138, f_273, e_272, u_274⟩⟩ : RS ws_262 ty_263 rd krd tp ktp cd bb tl)⟩, hS.F ht⟩) hS.2.2 dX4_readEither_112
    refine lv_aload_n hx hb dX4_readEither_105 rfl (lv_at hl 4 rfl) ?_
    refine lv_bipush (v := (-3)) hx hb dX4_readEither_106 (by decide) ?_
    have hFc := free_all hD hS hA
    refine va_callv (va_runV (As := [.int (-3)]) (rest := []) ⟨hx, hb, hml, hown, hts⟩ (r_addCode l D ws_262 ty_263 adK adV fo rd krd tp ktp cd bb tl (-3) H.size (⟨ts_115, te_116, cc_117, ra_118, rb_119, rc_120, rv_121, re_122, ya_123, by omega, by omega, by omega, by omega, e_267, e_268, ⟨k_130, c9_131, t_132, f_270, e_269, u_271⟩, ⟨k_136, c9_137, t_138, f_273, e_272, u_274⟩⟩ : RS ws_262 ty_263 rd krd tp ktp cd bb tl)) (cwV 1 hts gX4_readEither_X4_addCode rfl rfl rfl (by decide +kernel) ⟨Nat.le_of_ble_eq_true rfl, Nat.le_of_ble_eq_true rfl⟩) ⟨fun a U g mk q => by obtain ⟨q0, q1, qP, qK, qD, qS⟩ := q; exact ⟨q0, q1, qP, va_K.moved (u := U) (U := U.calling g mk a) (Vm.Alike.refl U.vm) qK, qD, SZ.same rfl rfl qS⟩, va_recv hK hP (ci := 4) (q0 := krd) rfl e_267, fun U hU hW => ⟨rfl, by rw [hU], by rw [hU]; exact hP, va_K.moved hW.alike hK, hD.weaken (fun _ _ _ _ => trivial), hsz9.go hS hW hU hFc⟩⟩ rfl rfl hl.1 rfl (lv_room (Nat.le_of_ble_eq_true rfl)) dX4_readEither_108 ⟨Nat.le_of_ble_eq_true rfl, Nat.le_of_ble_eq_true rfl⟩) hS (fun q _ h => hFc q h) hFc (fun u t H1 locs ht hvm w_278 hB hz1 hk1 hS => ?_)
    obtain ⟨ws_279, ty_280, hm_281, ht_283, hP1, hK1, hD1, hx_282⟩ := hB
    rw [ht] at hP1
    have hK := va_K.moved hvm.symm hK1
    have hD := hD1.weaken (fun _ _ _ h => hFc _ h)
    generalize H1 = H at hP1 hS ⊢
    have hP := hP1
    obtain ⟨g_285, e_284, h_286⟩ := hm_281.obj e_267
    obtain ⟨z_287, z_288, z_289, z_290, z_291, z_292, rfl⟩ := smX4 h_286
    obtain ⟨g_294, e_293, h_295⟩ := hm_281.obj e_268
    obtain ⟨z_296, z_297, z_298, z_299, rfl⟩ := smX6 h_295
    obtain ⟨f_301, e_300⟩ := hm_281.arrI e_269
    have u_302 := ht_283 _ _ u_271
    obtain ⟨f_304, e_303⟩ := hm_281.arrI e_272
    have u_305 := ht_283 _ _ u_274
    have hsm := hsm.tr (hm_281.mono (by decide))
    have hlp_93 := hlp_93.tr (hm_281.mono (by decide))
    have htx := htx.tr ht_283
    obtain ⟨ts_306, te_307, cc_308, ra_309, rb_310, rc_311, rv_312, re_313, ya_314, h1_315, h2_316, h3_317, h4_318, er_319, et_320, ⟨k_321, c9_322, t_323, f_324, e_325, u_326⟩, ⟨k_327, c9_328, t_329, f_330, e_331, u_332⟩⟩ := id hx_282
    refine lv_iload_n hx hb dX4_readEither_111 rfl (lv_at hl 1 rfl) ?_
    exact W.zret (v := x_86) hx hb hr (by rcases hbx_89 with h9 | h9 <;> rw [h9] <;> rfl) (fun t ht hW => ⟨⟨x_86, (), rfl, hbx_89, ws_279, ty_280, hsm, htx, by rw [ht]; exact hP, va_K.moved hW.alike hK, hD, (⟨ts_306, te_307, cc_308, ra_309, rb_310, rc_311, rv_312, re_313, ya_314, by omega, by omega, by omega, by omega, er_319, et_320, ⟨k_321, c9_322, t_323, f_324, e_325, u_326⟩, ⟨k_327, c9_328, t_329, f_330, e_331, u_332⟩⟩ : RS ws_279 ty_280 rd krd tp ktp cd bb tl)⟩, hS.F ht⟩) hS.2.2 dX4_readEither_112
  refine lv_if_eq (tgt := 101) hx hb dX4_readEither_27 (by decide) (fun c_333 => absurd c_333 (by decide)) (fun c_333 => ?_)
  refine lv_aload_n hx hb dX4_readEither_30 rfl (lv_at hl 4 rfl) ?_
  refine va_get (D := D) (ci := 4) (v := .ref tp) (C := RX4) (T := TX4) (N := 8) hx hb hts hin4 hown hK hP krd e_267 rfl 0 (by decide) (hts (.fieldLink RX4 12 "HoneyHouse$RuleReader" "tape" "LHoneyHouse$Tape;") (List.mem_of_getElem? (i := 1) rfl)) (fun _ h9 => h9) rfl dX4_readEither_31 ?_
  refine va_ldcS hx hb hown hsz9.2.2.2.2.2.1 dX4_readEither_34 ?_
  have hFc := free_all hD hS hA
  refine va_calli (va_runV (As := [.ref (adK 2)]) (rest := []) ⟨hx, hb, hml, hown, hts⟩ (a_isWord l D ws_262 ty_263 adK adV fo 2 tp ktp tl ya_123 (nI ts_115) (nI te_116) bb k_136 c9_137 t_138 f_273 H.size (by decide) e_268 e_272 u_274) (cwV 1 hts gX4_readEither_X6_isWord rfl rfl rfl (by decide +kernel) ⟨Nat.le_of_ble_eq_true rfl, Nat.le_of_ble_eq_true rfl⟩) ⟨fun a U g mk q => by obtain ⟨q0, q1, qP, qK, qD, qS⟩ := q; exact ⟨q0, q1, qP, va_K.moved (u := U) (U := U.calling g mk a) (Vm.Alike.refl U.vm) qK, qD, SZ.same rfl rfl qS⟩, va_recv hK hP (ci := 6) (q0 := ktp) rfl e_268, fun U hU hW => ⟨rfl, by rw [hU], by rw [hU]; exact hP, va_K.moved hW.alike hK, hD.weaken (fun _ _ _ _ => trivial), hsz9.go hS hW hU hFc⟩⟩ rfl rfl hl.1 rfl (lv_room (Nat.le_of_ble_eq_true rfl)) dX4_readEither_36 ⟨Nat.le_of_ble_eq_true rfl, Nat.le_of_ble_eq_true rfl⟩) hS (fun q _ h => hFc q h) hFc (fun r_334 u t H1 locs ht hvm w_335 hB hz1 hk1 hS => ?_)
  obtain ⟨ws_336, ty_337, hm_338, ht_340, hP1, hK1, hD1, hx_339⟩ := hB
  rw [ht] at hP1
  have hK := va_K.moved hvm.symm hK1
  have hD := hD1.weaken (fun _ _ _ h => hFc _ h)
  generalize H1 = H at hP1 hS ⊢
  have hP := hP1
  have e_341 := hm_338.objK e_267 (by decide)
  have e_342 := hm_338.objK e_268 (by decide)
  obtain ⟨f_344, e_343⟩ := hm_338.arrI e_269
  have u_345 := ht_340 _ _ u_271
  obtain ⟨f_347, e_346⟩ := hm_338.arrI e_272
  have u_348 := ht_340 _ _ u_274
  have hsm := hsm.tr (hm_338.mono (by decide))
  have hlp_93 := hlp_93.tr (hm_338.mono (by decide))
  have htx := htx.tr ht_340
  rcases w_335 with rfl | rfl
  · refine lv_istore (lv' := [(5, .int 0), (4, .int (nI i_85)), (2, .int x_86), (3, .int y_87), (1, .int 4), (0, .ref rd)]) hx hb dX4_readEither_39 hl (by decide) rfl (fun ls hl => ?_)
    refine lv_iload hx hb dX4_readEither_41 (lv_at hl 0 rfl) ?_
    refine lv_if_ne (tgt := 56) hx hb dX4_readEither_43 (by decide) (fun c_349 => absurd (by decide) c_349) (fun c_349 => ?_)
    refine lv_iload_n hx hb dX4_readEither_46 rfl (lv_at hl 3 rfl) ?_
    refine lv_if_eq (tgt := 56) hx hb dX4_readEither_47 (by decide) (fun c_350 => ?_) (fun c_350 => ?_)
    · refine lv_iload_n hx hb dX4_readEither_56 rfl (lv_at hl 3 rfl) ?_
      refine lv_if_ne (tgt := 65) hx hb dX4_readEither_57 (by decide) (fun c_351 => ?_) (fun c_351 => ?_)
      · refine lv_iconst (v := 1) hx hb dX4_readEither_65 (by decide) ?_
        refine lv_goto (tgt := 70) hx hb dX4_readEither_66 (by decide) ?_
        refine lv_istore_n (lv' := [(3, .int 1), (5, .int 0), (4, .int (nI i_85)), (2, .int x_86), (1, .int 4), (0, .ref rd)]) hx hb dX4_readEither_70 rfl hl (by decide) rfl (fun ls hl => ?_)
        refine lv_aload_n hx hb dX4_readEither_71 rfl (lv_at hl 5 rfl) ?_
        refine va_get (D := D) (ci := 4) (v := .ref tp) (C := RX4) (T := TX4) (N := 8) hx hb hts hin4 hown hK hP krd e_341 rfl 0 (by decide) (hts (.fieldLink RX4 12 "HoneyHouse$RuleReader" "tape" "LHoneyHouse$Tape;") (List.mem_of_getElem? (i := 1) rfl)) (fun _ h9 => h9) rfl dX4_readEither_72 ?_
        have hFc := free_all hD hS hA
        refine va_callv (va_runV (As := []) (rest := []) ⟨hx, hb, hml, hown, hts⟩ (a_advance l D ws_336 ty_337 tp ktp tl te_116 ya_123 (nI ts_115) bb k_136 c9_137 t_138 f_347 H.size (by omega) (by omega) e_342 e_346 u_348) (cwV 0 hts gX4_readEither_X6_advance rfl rfl rfl (by decide +kernel) ⟨Nat.le_of_ble_eq_true rfl, Nat.le_of_ble_eq_true rfl⟩) ⟨fun a U g mk q => by obtain ⟨q0, q1, qP, qK, qD⟩ := q; exact ⟨q0, q1, qP, va_K.moved (u := U) (U := U.calling g mk a) (Vm.Alike.refl U.vm) qK, qD⟩, va_recv hK hP (ci := 6) (q0 := ktp) rfl e_342, fun U hU hW => ⟨rfl, by rw [hU], by rw [hU]; exact hP, va_K.moved hW.alike hK, hD.weaken (fun _ _ _ _ => trivial)⟩⟩ rfl rfl hl.1 rfl (lv_room (Nat.le_of_ble_eq_true rfl)) dX4_readEither_75 ⟨Nat.le_of_ble_eq_true rfl, Nat.le_of_ble_eq_true rfl⟩) hS (fun q _ h => hFc q h) hFc (fun u t H1 locs ht hvm w_353 hB hz1 hk1 hS => ?_)
        obtain ⟨ws_354, ty_355, hm_356, ht_358, hP1, hK1, hD1, hx_357⟩ := hB
        rw [ht] at hP1
        have hK := va_K.moved hvm.symm hK1
        have hD := hD1.weaken (fun _ _ _ h => hFc _ h)
        generalize H1 = H at hP1 hS ⊢
        have hP := hP1
        have e_359 := hm_356.objK e_341 (by decide)
        obtain ⟨g_361, e_360, h_362⟩ := hm_356.obj e_342
        obtain ⟨z_363, z_364, z_365, z_366, rfl⟩ := smX6 h_362
        obtain ⟨f_368, e_367⟩ := hm_356.arrI e_343
        have u_369 := ht_358 _ _ u_345
        obtain ⟨f_371, e_370⟩ := hm_356.arrI e_346
        have u_372 := ht_358 _ _ u_348
        have hsm := hsm.tr (hm_356.mono (by decide))
        have hlp_93 := hlp_93.tr (hm_356.mono (by decide))
        have htx := htx.tr ht_358
        obtain ⟨k_373, s_374, e_375, h_376, h_377, h_378, e_379⟩ := hx_357
        refine lv_aload_n hx hb dX4_readEither_78 rfl (lv_at hl 5 rfl) ?_
        refine lv_iload_n hx hb dX4_readEither_79 rfl (lv_at hl 4 rfl) ?_
        have hFc := free_all hD hS hA
        refine va_calli (va_runV (As := [.int 4]) (rest := []) ⟨hx, hb, hml, hown, hts⟩ (r_readOne4 l D ws_354 ty_355 adK adV fo rd krd tp ktp cd bb tl  H.size (⟨s_374, e_375, cc_117, ra_118, rb_119, rc_120, rv_121, re_122, nI k_373, by omega, by omega, by omega, by omega, e_359, e_379, ⟨k_130, c9_131, t_132, f_368, e_367, u_369⟩, ⟨k_136, c9_137, t_138, f_371, e_370, u_372⟩⟩ : RS ws_354 ty_355 rd krd tp ktp cd bb tl)) (cwV 1 hts gX4_readEither_X4_readOne rfl rfl rfl (by decide +kernel) ⟨Nat.le_of_ble_eq_true rfl, Nat.le_of_ble_eq_true rfl⟩) ⟨fun a U g mk q => by obtain ⟨q0, q1, qP, qK, qD, qS⟩ := q; exact ⟨q0, q1, qP, va_K.moved (u := U) (U := U.calling g mk a) (Vm.Alike.refl U.vm) qK, qD, SZ.same rfl rfl qS⟩, va_recv hK hP (ci := 4) (q0 := krd) rfl e_359, fun U hU hW => ⟨rfl, by rw [hU], by rw [hU]; exact hP, va_K.moved hW.alike hK, hD.weaken (fun _ _ _ _ => trivial), hsz9.go hS hW hU hFc⟩⟩ rfl rfl hl.1 rfl (lv_room (Nat.le_of_ble_eq_true rfl)) dX4_readEither_80 ⟨Nat.le_of_ble_eq_true rfl, Nat.le_of_ble_eq_true rfl⟩) hS (fun q _ h => hFc q h) hFc (fun r_380 u t H1 locs ht hvm w_381 hB hz1 hk1 hS => ?_)
        obtain ⟨ws_382, ty_383, hm_384, ht_386, hP1, hK1, hD1, hx_385⟩ := hB
        rw [ht] at hP1
        have hK := va_K.moved hvm.symm hK1
        have hD := hD1.weaken (fun _ _ _ h => hFc _ h)
        generalize H1 = H at hP1 hS ⊢
        have hP := hP1
        obtain ⟨g_388, e_387, h_389⟩ := hm_384.obj e_359
        obtain ⟨z_390, z_391, z_392, z_393, z_394, z_395, rfl⟩ := smX4 h_389
        obtain ⟨g_397, e_396, h_398⟩ := hm_384.obj e_379
        obtain ⟨z_399, z_400, z_401, z_402, rfl⟩ := smX6 h_398
        obtain ⟨f_404, e_403⟩ := hm_384.arrI e_367
        have u_405 := ht_386 _ _ u_369
        obtain ⟨f_407, e_406⟩ := hm_384.arrI e_370
        have u_408 := ht_386 _ _ u_372
        have hsm := hsm.tr (hm_384.mono (by decide))
        have hlp_93 := hlp_93.tr (hm_384.mono (by decide))
        have htx := htx.tr ht_386
        obtain ⟨ts_409, te_410, cc_411, ra_412, rb_413, rc_414, rv_415, re_416, ya_417, h1_418, h2_419, h3_420, h4_421, er_422, et_423, ⟨k_424, c9_425, t_426, f_427, e_428, u_429⟩, ⟨k_430, c9_431, t_432, f_433, e_434, u_435⟩⟩ := id hx_385
        refine lv_istore_n (lv' := [(2, .int r_380), (3, .int 1), (5, .int 0), (4, .int (nI i_85)), (1, .int 4), (0, .ref rd)]) hx hb dX4_readEither_83 rfl hl (by decide) rfl (fun ls hl => ?_)
        refine lv_iload hx hb dX4_readEither_84 (lv_at hl 2 rfl) ?_
        refine lv_if_eq (tgt := 95) hx hb dX4_readEither_86 (by decide) (fun c_436 => ?_) (fun c_436 => absurd (by decide) c_436)
        refine lv_iinc (v := nI (i_85 + 1)) (lv' := [(4, .int (nI (i_85 + 1))), (2, .int r_380), (3, .int 1), (5, .int 0), (1, .int 4), (0, .ref rd)]) hx hb dX4_readEither_95 hl (k := 3) rfl (nI_add i_85 1) (by decide) rfl (fun ls hl => ?_)
        refine lv_goto (tgt := 11) hx hb dX4_readEither_98 (by decide) ?_
        exact ih_84 (i_85 + 1, r_380, 1) ws_382 _ _ ls (by show 400 - (i_85 + 1) < 400 - i_85; omega) ⟨hlp_93, (⟨ts_409, te_410, cc_411, ra_412, rb_413, rc_414, rv_415, re_416, ya_417, by omega, by omega, by omega, by omega, er_422, et_423, ⟨k_424, c9_425, t_426, f_427, e_428, u_429⟩, ⟨k_430, c9_431, t_432, f_433, e_434, u_435⟩⟩ : RS ws_382 ty_383 rd krd tp ktp cd bb tl), (show (i_85 + 1) ≤ 400 from by omega), (show r_380 = 0 ∨ r_380 = 1 from w_381), (show 1 = 0 ∨ 1 = 1 from Or.inr rfl)⟩ hP hD hS (lv_sub hl [0, 1, 2, 4, 5] rfl)
      refine lv_iload hx hb dX4_readEither_60 (lv_at hl 0 rfl) ?_
      refine lv_if_ne (tgt := 69) hx hb dX4_readEither_62 (by decide) (fun c_437 => absurd (by decide) c_437) (fun c_437 => ?_)
      refine lv_iconst (v := 1) hx hb dX4_readEither_65 (by decide) ?_
      refine lv_goto (tgt := 70) hx hb dX4_readEither_66 (by decide) ?_
      refine lv_istore_n (lv' := [(3, .int 1), (5, .int 0), (4, .int (nI i_85)), (2, .int x_86), (1, .int 4), (0, .ref rd)]) hx hb dX4_readEither_70 rfl hl (by decide) rfl (fun ls hl => ?_)
      refine lv_aload_n hx hb dX4_readEither_71 rfl (lv_at hl 5 rfl) ?_
      refine va_get (D := D) (ci := 4) (v := .ref tp) (C := RX4) (T := TX4) (N := 8) hx hb hts hin4 hown hK hP krd e_341 rfl 0 (by decide) (hts (.fieldLink RX4 12 "HoneyHouse$RuleReader" "tape" "LHoneyHouse$Tape;") (List.mem_of_getElem? (i := 1) rfl)) (fun _ h9 => h9) rfl dX4_readEither_72 ?_
      have hFc := free_all hD hS hA
      refine va_callv (va_runV (As := []) (rest := []) ⟨hx, hb, hml, hown, hts⟩ (a_advance l D ws_336 ty_337 tp ktp tl te_116 ya_123 (nI ts_115) bb k_136 c9_137 t_138 f_347 H.size (by omega) (by omega) e_342 e_346 u_348) (cwV 0 hts gX4_readEither_X6_advance rfl rfl rfl (by decide +kernel) ⟨Nat.le_of_ble_eq_true rfl, Nat.le_of_ble_eq_true rfl⟩) ⟨fun a U g mk q => by obtain ⟨q0, q1, qP, qK, qD⟩ := q; exact ⟨q0, q1, qP, va_K.moved (u := U) (U := U.calling g mk a) (Vm.Alike.refl U.vm) qK, qD⟩, va_recv hK hP (ci := 6) (q0 := ktp) rfl e_342, fun U hU hW => ⟨rfl, by rw [hU], by rw [hU]; exact hP, va_K.moved hW.alike hK, hD.weaken (fun _ _ _ _ => trivial)⟩⟩ rfl rfl hl.1 rfl (lv_room (Nat.le_of_ble_eq_true rfl)) dX4_readEither_75 ⟨Nat.le_of_ble_eq_true rfl, Nat.le_of_ble_eq_true rfl⟩) hS (fun q _ h => hFc q h) hFc (fun u t H1 locs ht hvm w_439 hB hz1 hk1 hS => ?_)
      obtain ⟨ws_440, ty_441, hm_442, ht_444, hP1, hK1, hD1, hx_443⟩ := hB
      rw [ht] at hP1
      have hK := va_K.moved hvm.symm hK1
      have hD := hD1.weaken (fun _ _ _ h => hFc _ h)
      generalize H1 = H at hP1 hS ⊢
      have hP := hP1
      have e_445 := hm_442.objK e_341 (by decide)
      obtain ⟨g_447, e_446, h_448⟩ := hm_442.obj e_342
      obtain ⟨z_449, z_450, z_451, z_452, rfl⟩ := smX6 h_448
      obtain ⟨f_454, e_453⟩ := hm_442.arrI e_343
      have u_455 := ht_444 _ _ u_345
      obtain ⟨f_457, e_456⟩ := hm_442.arrI e_346
      have u_458 := ht_444 _ _ u_348
      have hsm := hsm.tr (hm_442.mono (by decide))
      have hlp_93 := hlp_93.tr (hm_442.mono (by decide))
      have htx := htx.tr ht_444
      obtain ⟨k_459, s_460, e_461, h_462, h_463, h_464, e_465⟩ := hx_443
      refine lv_aload_n hx hb dX4_readEither_78 rfl (lv_at hl 5 rfl) ?_
      refine lv_iload_n hx hb dX4_readEither_79 rfl (lv_at hl 4 rfl) ?_
      have hFc := free_all hD hS hA
      refine va_calli (va_runV (As := [.int 4]) (rest := []) ⟨hx, hb, hml, hown, hts⟩ (r_readOne4 l D ws_440 ty_441 adK adV fo rd krd tp ktp cd bb tl  H.size (⟨s_460, e_461, cc_117, ra_118, rb_119, rc_120, rv_121, re_122, nI k_459, by omega, by omega, by omega, by omega, e_445, e_465, ⟨k_130, c9_131, t_132, f_454, e_453, u_455⟩, ⟨k_136, c9_137, t_138, f_457, e_456, u_458⟩⟩ : RS ws_440 ty_441 rd krd tp ktp cd bb tl)) (cwV 1 hts gX4_readEither_X4_readOne rfl rfl rfl (by decide +kernel) ⟨Nat.le_of_ble_eq_true rfl, Nat.le_of_ble_eq_true rfl⟩) ⟨fun a U g mk q => by obtain ⟨q0, q1, qP, qK, qD, qS⟩ := q; exact ⟨q0, q1, qP, va_K.moved (u := U) (U := U.calling g mk a) (Vm.Alike.refl U.vm) qK, qD, SZ.same rfl rfl qS⟩, va_recv hK hP (ci := 4) (q0 := krd) rfl e_445, fun U hU hW => ⟨rfl, by rw [hU], by rw [hU]; exact hP, va_K.moved hW.alike hK, hD.weaken (fun _ _ _ _ => trivial), hsz9.go hS hW hU hFc⟩⟩ rfl rfl hl.1 rfl (lv_room (Nat.le_of_ble_eq_true rfl)) dX4_readEither_80 ⟨Nat.le_of_ble_eq_true rfl, Nat.le_of_ble_eq_true rfl⟩) hS (fun q _ h => hFc q h) hFc (fun r_466 u t H1 locs ht hvm w_467 hB hz1 hk1 hS => ?_)
      obtain ⟨ws_468, ty_469, hm_470, ht_472, hP1, hK1, hD1, hx_471⟩ := hB
      rw [ht] at hP1
      have hK := va_K.moved hvm.symm hK1
      have hD := hD1.weaken (fun _ _ _ h => hFc _ h)
      generalize H1 = H at hP1 hS ⊢
      have hP := hP1
      obtain ⟨g_474, e_473, h_475⟩ := hm_470.obj e_445
      obtain ⟨z_476, z_477, z_478, z_479, z_480, z_481, rfl⟩ := smX4 h_475
      obtain ⟨g_483, e_482, h_484⟩ := hm_470.obj e_465
      obtain ⟨z_485, z_486, z_487, z_488, rfl⟩ := smX6 h_484
      obtain ⟨f_490, e_489⟩ := hm_470.arrI e_453
      have u_491 := ht_472 _ _ u_455
      obtain ⟨f_493, e_492⟩ := hm_470.arrI e_456
      have u_494 := ht_472 _ _ u_458
      have hsm := hsm.tr (hm_470.mono (by decide))
      have hlp_93 := hlp_93.tr (hm_470.mono (by decide))
      have htx := htx.tr ht_472
      obtain ⟨ts_495, te_496, cc_497, ra_498, rb_499, rc_500, rv_501, re_502, ya_503, h1_504, h2_505, h3_506, h4_507, er_508, et_509, ⟨k_510, c9_511, t_512, f_513, e_514, u_515⟩, ⟨k_516, c9_517, t_518, f_519, e_520, u_521⟩⟩ := id hx_471
      refine lv_istore_n (lv' := [(2, .int r_466), (3, .int 1), (5, .int 0), (4, .int (nI i_85)), (1, .int 4), (0, .ref rd)]) hx hb dX4_readEither_83 rfl hl (by decide) rfl (fun ls hl => ?_)
      refine lv_iload hx hb dX4_readEither_84 (lv_at hl 2 rfl) ?_
      refine lv_if_eq (tgt := 95) hx hb dX4_readEither_86 (by decide) (fun c_522 => ?_) (fun c_522 => absurd (by decide) c_522)
      refine lv_iinc (v := nI (i_85 + 1)) (lv' := [(4, .int (nI (i_85 + 1))), (2, .int r_466), (3, .int 1), (5, .int 0), (1, .int 4), (0, .ref rd)]) hx hb dX4_readEither_95 hl (k := 3) rfl (nI_add i_85 1) (by decide) rfl (fun ls hl => ?_)
      refine lv_goto (tgt := 11) hx hb dX4_readEither_98 (by decide) ?_
      exact ih_84 (i_85 + 1, r_466, 1) ws_468 _ _ ls (by show 400 - (i_85 + 1) < 400 - i_85; omega) ⟨hlp_93, (⟨ts_495, te_496, cc_497, ra_498, rb_499, rc_500, rv_501, re_502, ya_503, by omega, by omega, by omega, by omega, er_508, et_509, ⟨k_510, c9_511, t_512, f_513, e_514, u_515⟩, ⟨k_516, c9_517, t_518, f_519, e_520, u_521⟩⟩ : RS ws_468 ty_469 rd krd tp ktp cd bb tl), (show (i_85 + 1) ≤ 400 from by omega), (show r_466 = 0 ∨ r_466 = 1 from w_467), (show 1 = 0 ∨ 1 = 1 from Or.inr rfl)⟩ hP hD hS (lv_sub hl [0, 1, 2, 4, 5] rfl)
    refine lv_aload_n hx hb dX4_readEither_50 rfl (lv_at hl 5 rfl) ?_
    refine lv_bipush (v := (-3)) hx hb dX4_readEither_51 (by decide) ?_
    have hFc := free_all hD hS hA
    refine va_callv (va_runV (As := [.int (-3)]) (rest := []) ⟨hx, hb, hml, hown, hts⟩ (r_addCode l D ws_336 ty_337 adK adV fo rd krd tp ktp cd bb tl (-3) H.size (⟨ts_115, te_116, cc_117, ra_118, rb_119, rc_120, rv_121, re_122, ya_123, by omega, by omega, by omega, by omega, e_341, e_342, ⟨k_130, c9_131, t_132, f_344, e_343, u_345⟩, ⟨k_136, c9_137, t_138, f_347, e_346, u_348⟩⟩ : RS ws_336 ty_337 rd krd tp ktp cd bb tl)) (cwV 1 hts gX4_readEither_X4_addCode rfl rfl rfl (by decide +kernel) ⟨Nat.le_of_ble_eq_true rfl, Nat.le_of_ble_eq_true rfl⟩) ⟨fun a U g mk q => by obtain ⟨q0, q1, qP, qK, qD, qS⟩ := q; exact ⟨q0, q1, qP, va_K.moved (u := U) (U := U.calling g mk a) (Vm.Alike.refl U.vm) qK, qD, SZ.same rfl rfl qS⟩, va_recv hK hP (ci := 4) (q0 := krd) rfl e_341, fun U hU hW => ⟨rfl, by rw [hU], by rw [hU]; exact hP, va_K.moved hW.alike hK, hD.weaken (fun _ _ _ _ => trivial), hsz9.go hS hW hU hFc⟩⟩ rfl rfl hl.1 rfl (lv_room (Nat.le_of_ble_eq_true rfl)) dX4_readEither_53 ⟨Nat.le_of_ble_eq_true rfl, Nat.le_of_ble_eq_true rfl⟩) hS (fun q _ h => hFc q h) hFc (fun u t H1 locs ht hvm w_524 hB hz1 hk1 hS => ?_)
    obtain ⟨ws_525, ty_526, hm_527, ht_529, hP1, hK1, hD1, hx_528⟩ := hB
    rw [ht] at hP1
    have hK := va_K.moved hvm.symm hK1
    have hD := hD1.weaken (fun _ _ _ h => hFc _ h)
    generalize H1 = H at hP1 hS ⊢
    have hP := hP1
    obtain ⟨g_531, e_530, h_532⟩ := hm_527.obj e_341
    obtain ⟨z_533, z_534, z_535, z_536, z_537, z_538, rfl⟩ := smX4 h_532
    obtain ⟨g_540, e_539, h_541⟩ := hm_527.obj e_342
    obtain ⟨z_542, z_543, z_544, z_545, rfl⟩ := smX6 h_541
    obtain ⟨f_547, e_546⟩ := hm_527.arrI e_343
    have u_548 := ht_529 _ _ u_345
    obtain ⟨f_550, e_549⟩ := hm_527.arrI e_346
    have u_551 := ht_529 _ _ u_348
    have hsm := hsm.tr (hm_527.mono (by decide))
    have hlp_93 := hlp_93.tr (hm_527.mono (by decide))
    have htx := htx.tr ht_529
    obtain ⟨ts_552, te_553, cc_554, ra_555, rb_556, rc_557, rv_558, re_559, ya_560, h1_561, h2_562, h3_563, h4_564, er_565, et_566, ⟨k_567, c9_568, t_569, f_570, e_571, u_572⟩, ⟨k_573, c9_574, t_575, f_576, e_577, u_578⟩⟩ := id hx_528
    refine lv_iload_n hx hb dX4_readEither_56 rfl (lv_at hl 3 rfl) ?_
    refine lv_if_ne (tgt := 65) hx hb dX4_readEither_57 (by decide) (fun c_579 => ?_) (fun c_579 => ?_)
    · refine lv_iconst (v := 1) hx hb dX4_readEither_65 (by decide) ?_
      refine lv_goto (tgt := 70) hx hb dX4_readEither_66 (by decide) ?_
      refine lv_istore_n (lv' := [(3, .int 1), (5, .int 0), (4, .int (nI i_85)), (2, .int x_86), (1, .int 4), (0, .ref rd)]) hx hb dX4_readEither_70 rfl hl (by decide) rfl (fun ls hl => ?_)
      refine lv_aload_n hx hb dX4_readEither_71 rfl (lv_at hl 5 rfl) ?_
      refine va_get (D := D) (ci := 4) (v := .ref tp) (C := RX4) (T := TX4) (N := 8) hx hb hts hin4 hown hK hP krd er_565 rfl 0 (by decide) (hts (.fieldLink RX4 12 "HoneyHouse$RuleReader" "tape" "LHoneyHouse$Tape;") (List.mem_of_getElem? (i := 1) rfl)) (fun _ h9 => h9) rfl dX4_readEither_72 ?_
      have hFc := free_all hD hS hA
      refine va_callv (va_runV (As := []) (rest := []) ⟨hx, hb, hml, hown, hts⟩ (a_advance l D ws_525 ty_526 tp ktp tl te_553 ya_560 (nI ts_552) bb k_573 c9_574 t_575 f_576 H.size (by omega) (by omega) et_566 e_577 u_578) (cwV 0 hts gX4_readEither_X6_advance rfl rfl rfl (by decide +kernel) ⟨Nat.le_of_ble_eq_true rfl, Nat.le_of_ble_eq_true rfl⟩) ⟨fun a U g mk q => by obtain ⟨q0, q1, qP, qK, qD⟩ := q; exact ⟨q0, q1, qP, va_K.moved (u := U) (U := U.calling g mk a) (Vm.Alike.refl U.vm) qK, qD⟩, va_recv hK hP (ci := 6) (q0 := ktp) rfl et_566, fun U hU hW => ⟨rfl, by rw [hU], by rw [hU]; exact hP, va_K.moved hW.alike hK, hD.weaken (fun _ _ _ _ => trivial)⟩⟩ rfl rfl hl.1 rfl (lv_room (Nat.le_of_ble_eq_true rfl)) dX4_readEither_75 ⟨Nat.le_of_ble_eq_true rfl, Nat.le_of_ble_eq_true rfl⟩) hS (fun q _ h => hFc q h) hFc (fun u t H1 locs ht hvm w_581 hB hz1 hk1 hS => ?_)
      obtain ⟨ws_582, ty_583, hm_584, ht_586, hP1, hK1, hD1, hx_585⟩ := hB
      rw [ht] at hP1
      have hK := va_K.moved hvm.symm hK1
      have hD := hD1.weaken (fun _ _ _ h => hFc _ h)
      generalize H1 = H at hP1 hS ⊢
      have hP := hP1
      have e_587 := hm_584.objK er_565 (by decide)
      obtain ⟨g_589, e_588, h_590⟩ := hm_584.obj et_566
      obtain ⟨z_591, z_592, z_593, z_594, rfl⟩ := smX6 h_590
      obtain ⟨f_596, e_595⟩ := hm_584.arrI e_571
      have u_597 := ht_586 _ _ u_572
      obtain ⟨f_599, e_598⟩ := hm_584.arrI e_577
      have u_600 := ht_586 _ _ u_578
      have hsm := hsm.tr (hm_584.mono (by decide))
      have hlp_93 := hlp_93.tr (hm_584.mono (by decide))
      have htx := htx.tr ht_586
      obtain ⟨k_601, s_602, e_603, h_604, h_605, h_606, e_607⟩ := hx_585
      refine lv_aload_n hx hb dX4_readEither_78 rfl (lv_at hl 5 rfl) ?_
      refine lv_iload_n hx hb dX4_readEither_79 rfl (lv_at hl 4 rfl) ?_
      have hFc := free_all hD hS hA
      refine va_calli (va_runV (As := [.int 4]) (rest := []) ⟨hx, hb, hml, hown, hts⟩ (r_readOne4 l D ws_582 ty_583 adK adV fo rd krd tp ktp cd bb tl  H.size (⟨s_602, e_603, cc_554, ra_555, rb_556, rc_557, rv_558, re_559, nI k_601, by omega, by omega, by omega, by omega, e_587, e_607, ⟨k_567, c9_568, t_569, f_596, e_595, u_597⟩, ⟨k_573, c9_574, t_575, f_599, e_598, u_600⟩⟩ : RS ws_582 ty_583 rd krd tp ktp cd bb tl)) (cwV 1 hts gX4_readEither_X4_readOne rfl rfl rfl (by decide +kernel) ⟨Nat.le_of_ble_eq_true rfl, Nat.le_of_ble_eq_true rfl⟩) ⟨fun a U g mk q => by obtain ⟨q0, q1, qP, qK, qD, qS⟩ := q; exact ⟨q0, q1, qP, va_K.moved (u := U) (U := U.calling g mk a) (Vm.Alike.refl U.vm) qK, qD, SZ.same rfl rfl qS⟩, va_recv hK hP (ci := 4) (q0 := krd) rfl e_587, fun U hU hW => ⟨rfl, by rw [hU], by rw [hU]; exact hP, va_K.moved hW.alike hK, hD.weaken (fun _ _ _ _ => trivial), hsz9.go hS hW hU hFc⟩⟩ rfl rfl hl.1 rfl (lv_room (Nat.le_of_ble_eq_true rfl)) dX4_readEither_80 ⟨Nat.le_of_ble_eq_true rfl, Nat.le_of_ble_eq_true rfl⟩) hS (fun q _ h => hFc q h) hFc (fun r_608 u t H1 locs ht hvm w_609 hB hz1 hk1 hS => ?_)
      obtain ⟨ws_610, ty_611, hm_612, ht_614, hP1, hK1, hD1, hx_613⟩ := hB
      rw [ht] at hP1
      have hK := va_K.moved hvm.symm hK1
      have hD := hD1.weaken (fun _ _ _ h => hFc _ h)
      generalize H1 = H at hP1 hS ⊢
      have hP := hP1
      obtain ⟨g_616, e_615, h_617⟩ := hm_612.obj e_587
      obtain ⟨z_618, z_619, z_620, z_621, z_622, z_623, rfl⟩ := smX4 h_617
      obtain ⟨g_625, e_624, h_626⟩ := hm_612.obj e_607
      obtain ⟨z_627, z_628, z_629, z_630, rfl⟩ := smX6 h_626
      obtain ⟨f_632, e_631⟩ := hm_612.arrI e_595
      have u_633 := ht_614 _ _ u_597
      obtain ⟨f_635, e_634⟩ := hm_612.arrI e_598
      have u_636 := ht_614 _ _ u_600
      have hsm := hsm.tr (hm_612.mono (by decide))
      have hlp_93 := hlp_93.tr (hm_612.mono (by decide))
      have htx := htx.tr ht_614
      obtain ⟨ts_637, te_638, cc_639, ra_640, rb_641, rc_642, rv_643, re_644, ya_645, h1_646, h2_647, h3_648, h4_649, er_650, et_651, ⟨k_652, c9_653, t_654, f_655, e_656, u_657⟩, ⟨k_658, c9_659, t_660, f_661, e_662, u_663⟩⟩ := id hx_613
      refine lv_istore_n (lv' := [(2, .int r_608), (3, .int 1), (5, .int 0), (4, .int (nI i_85)), (1, .int 4), (0, .ref rd)]) hx hb dX4_readEither_83 rfl hl (by decide) rfl (fun ls hl => ?_)
      refine lv_iload hx hb dX4_readEither_84 (lv_at hl 2 rfl) ?_
      refine lv_if_eq (tgt := 95) hx hb dX4_readEither_86 (by decide) (fun c_664 => ?_) (fun c_664 => absurd (by decide) c_664)
      refine lv_iinc (v := nI (i_85 + 1)) (lv' := [(4, .int (nI (i_85 + 1))), (2, .int r_608), (3, .int 1), (5, .int 0), (1, .int 4), (0, .ref rd)]) hx hb dX4_readEither_95 hl (k := 3) rfl (nI_add i_85 1) (by decide) rfl (fun ls hl => ?_)
      refine lv_goto (tgt := 11) hx hb dX4_readEither_98 (by decide) ?_
      exact ih_84 (i_85 + 1, r_608, 1) ws_610 _ _ ls (by show 400 - (i_85 + 1) < 400 - i_85; omega) ⟨hlp_93, (⟨ts_637, te_638, cc_639, ra_640, rb_641, rc_642, rv_643, re_644, ya_645, by omega, by omega, by omega, by omega, er_650, et_651, ⟨k_652, c9_653, t_654, f_655, e_656, u_657⟩, ⟨k_658, c9_659, t_660, f_661, e_662, u_663⟩⟩ : RS ws_610 ty_611 rd krd tp ktp cd bb tl), (show (i_85 + 1) ≤ 400 from by omega), (show r_608 = 0 ∨ r_608 = 1 from w_609), (show 1 = 0 ∨ 1 = 1 from Or.inr rfl)⟩ hP hD hS (lv_sub hl [0, 1, 2, 4, 5] rfl)
    refine lv_iload hx hb dX4_readEither_60 (lv_at hl 0 rfl) ?_
    refine lv_if_ne (tgt := 69) hx hb dX4_readEither_62 (by decide) (fun c_665 => absurd (by decide) c_665) (fun c_665 => ?_)
    refine lv_iconst (v := 1) hx hb dX4_readEither_65 (by decide) ?_
    refine lv_goto (tgt := 70) hx hb dX4_readEither_66 (by decide) ?_
    refine lv_istore_n (lv' := [(3, .int 1), (5, .int 0), (4, .int (nI i_85)), (2, .int x_86), (1, .int 4), (0, .ref rd)]) hx hb dX4_readEither_70 rfl hl (by decide) rfl (fun ls hl => ?_)
    refine lv_aload_n hx hb dX4_readEither_71 rfl (lv_at hl 5 rfl) ?_
    refine va_get (D := D) (ci := 4) (v := .ref tp) (C := RX4) (T := TX4) (N := 8) hx hb hts hin4 hown hK hP krd er_565 rfl 0 (by decide) (hts (.fieldLink RX4 12 "HoneyHouse$RuleReader" "tape" "LHoneyHouse$Tape;") (List.mem_of_getElem? (i := 1) rfl)) (fun _ h9 => h9) rfl dX4_readEither_72 ?_
    have hFc := free_all hD hS hA
    refine va_callv (va_runV (As := []) (rest := []) ⟨hx, hb, hml, hown, hts⟩ (a_advance l D ws_525 ty_526 tp ktp tl te_553 ya_560 (nI ts_552) bb k_573 c9_574 t_575 f_576 H.size (by omega) (by omega) et_566 e_577 u_578) (cwV 0 hts gX4_readEither_X6_advance rfl rfl rfl (by decide +kernel) ⟨Nat.le_of_ble_eq_true rfl, Nat.le_of_ble_eq_true rfl⟩) ⟨fun a U g mk q => by obtain ⟨q0, q1, qP, qK, qD⟩ := q; exact ⟨q0, q1, qP, va_K.moved (u := U) (U := U.calling g mk a) (Vm.Alike.refl U.vm) qK, qD⟩, va_recv hK hP (ci := 6) (q0 := ktp) rfl et_566, fun U hU hW => ⟨rfl, by rw [hU], by rw [hU]; exact hP, va_K.moved hW.alike hK, hD.weaken (fun _ _ _ _ => trivial)⟩⟩ rfl rfl hl.1 rfl (lv_room (Nat.le_of_ble_eq_true rfl)) dX4_readEither_75 ⟨Nat.le_of_ble_eq_true rfl, Nat.le_of_ble_eq_true rfl⟩) hS (fun q _ h => hFc q h) hFc (fun u t H1 locs ht hvm w_667 hB hz1 hk1 hS => ?_)
    obtain ⟨ws_668, ty_669, hm_670, ht_672, hP1, hK1, hD1, hx_671⟩ := hB
    rw [ht] at hP1
    have hK := va_K.moved hvm.symm hK1
    have hD := hD1.weaken (fun _ _ _ h => hFc _ h)
    generalize H1 = H at hP1 hS ⊢
    have hP := hP1
    have e_673 := hm_670.objK er_565 (by decide)
    obtain ⟨g_675, e_674, h_676⟩ := hm_670.obj et_566
    obtain ⟨z_677, z_678, z_679, z_680, rfl⟩ := smX6 h_676
    obtain ⟨f_682, e_681⟩ := hm_670.arrI e_571
    have u_683 := ht_672 _ _ u_572
    obtain ⟨f_685, e_684⟩ := hm_670.arrI e_577
    have u_686 := ht_672 _ _ u_578
    have hsm := hsm.tr (hm_670.mono (by decide))
    have hlp_93 := hlp_93.tr (hm_670.mono (by decide))
    have htx := htx.tr ht_672
    obtain ⟨k_687, s_688, e_689, h_690, h_691, h_692, e_693⟩ := hx_671
    refine lv_aload_n hx hb dX4_readEither_78 rfl (lv_at hl 5 rfl) ?_
    refine lv_iload_n hx hb dX4_readEither_79 rfl (lv_at hl 4 rfl) ?_
    have hFc := free_all hD hS hA
    refine va_calli (va_runV (As := [.int 4]) (rest := []) ⟨hx, hb, hml, hown, hts⟩ (r_readOne4 l D ws_668 ty_669 adK adV fo rd krd tp ktp cd bb tl  H.size (⟨s_688, e_689, cc_554, ra_555, rb_556, rc_557, rv_558, re_559, nI k_687, by omega, by omega, by omega, by omega, e_673, e_693, ⟨k_567, c9_568, t_569, f_682, e_681, u_683⟩, ⟨k_573, c9_574, t_575, f_685, e_684, u_686⟩⟩ : RS ws_668 ty_669 rd krd tp ktp cd bb tl)) (cwV 1 hts gX4_readEither_X4_readOne rfl rfl rfl (by decide +kernel) ⟨Nat.le_of_ble_eq_true rfl, Nat.le_of_ble_eq_true rfl⟩) ⟨fun a U g mk q => by obtain ⟨q0, q1, qP, qK, qD, qS⟩ := q; exact ⟨q0, q1, qP, va_K.moved (u := U) (U := U.calling g mk a) (Vm.Alike.refl U.vm) qK, qD, SZ.same rfl rfl qS⟩, va_recv hK hP (ci := 4) (q0 := krd) rfl e_673, fun U hU hW => ⟨rfl, by rw [hU], by rw [hU]; exact hP, va_K.moved hW.alike hK, hD.weaken (fun _ _ _ _ => trivial), hsz9.go hS hW hU hFc⟩⟩ rfl rfl hl.1 rfl (lv_room (Nat.le_of_ble_eq_true rfl)) dX4_readEither_80 ⟨Nat.le_of_ble_eq_true rfl, Nat.le_of_ble_eq_true rfl⟩) hS (fun q _ h => hFc q h) hFc (fun r_694 u t H1 locs ht hvm w_695 hB hz1 hk1 hS => ?_)
    obtain ⟨ws_696, ty_697, hm_698, ht_700, hP1, hK1, hD1, hx_699⟩ := hB
    rw [ht] at hP1
    have hK := va_K.moved hvm.symm hK1
    have hD := hD1.weaken (fun _ _ _ h => hFc _ h)
    generalize H1 = H at hP1 hS ⊢
    have hP := hP1
    obtain ⟨g_702, e_701, h_703⟩ := hm_698.obj e_673
    obtain ⟨z_704, z_705, z_706, z_707, z_708, z_709, rfl⟩ := smX4 h_703
    obtain ⟨g_711, e_710, h_712⟩ := hm_698.obj e_693
    obtain ⟨z_713, z_714, z_715, z_716, rfl⟩ := smX6 h_712
    obtain ⟨f_718, e_717⟩ := hm_698.arrI e_681
    have u_719 := ht_700 _ _ u_683
    obtain ⟨f_721, e_720⟩ := hm_698.arrI e_684
    have u_722 := ht_700 _ _ u_686
    have hsm := hsm.tr (hm_698.mono (by decide))
    have hlp_93 := hlp_93.tr (hm_698.mono (by decide))
    have htx := htx.tr ht_700
    obtain ⟨ts_723, te_724, cc_725, ra_726, rb_727, rc_728, rv_729, re_730, ya_731, h1_732, h2_733, h3_734, h4_735, er_736, et_737, ⟨k_738, c9_739, t_740, f_741, e_742, u_743⟩, ⟨k_744, c9_745, t_746, f_747, e_748, u_749⟩⟩ := id hx_699
    refine lv_istore_n (lv' := [(2, .int r_694), (3, .int 1), (5, .int 0), (4, .int (nI i_85)), (1, .int 4), (0, .ref rd)]) hx hb dX4_readEither_83 rfl hl (by decide) rfl (fun ls hl => ?_)
    refine lv_iload hx hb dX4_readEither_84 (lv_at hl 2 rfl) ?_
    refine lv_if_eq (tgt := 95) hx hb dX4_readEither_86 (by decide) (fun c_750 => ?_) (fun c_750 => absurd (by decide) c_750)
    refine lv_iinc (v := nI (i_85 + 1)) (lv' := [(4, .int (nI (i_85 + 1))), (2, .int r_694), (3, .int 1), (5, .int 0), (1, .int 4), (0, .ref rd)]) hx hb dX4_readEither_95 hl (k := 3) rfl (nI_add i_85 1) (by decide) rfl (fun ls hl => ?_)
    refine lv_goto (tgt := 11) hx hb dX4_readEither_98 (by decide) ?_
    exact ih_84 (i_85 + 1, r_694, 1) ws_696 _ _ ls (by show 400 - (i_85 + 1) < 400 - i_85; omega) ⟨hlp_93, (⟨ts_723, te_724, cc_725, ra_726, rb_727, rc_728, rv_729, re_730, ya_731, by omega, by omega, by omega, by omega, er_736, et_737, ⟨k_738, c9_739, t_740, f_741, e_742, u_743⟩, ⟨k_744, c9_745, t_746, f_747, e_748, u_749⟩⟩ : RS ws_696 ty_697 rd krd tp ktp cd bb tl), (show (i_85 + 1) ≤ 400 from by omega), (show r_694 = 0 ∨ r_694 = 1 from w_695), (show 1 = 0 ∨ 1 = 1 from Or.inr rfl)⟩ hP hD hS (lv_sub hl [0, 1, 2, 4, 5] rfl)
  refine lv_istore (lv' := [(5, .int 1), (4, .int (nI i_85)), (2, .int x_86), (3, .int y_87), (1, .int 4), (0, .ref rd)]) hx hb dX4_readEither_39 hl (by decide) rfl (fun ls hl => ?_)
  refine lv_iload hx hb dX4_readEither_41 (lv_at hl 0 rfl) ?_
  refine lv_if_ne (tgt := 56) hx hb dX4_readEither_43 (by decide) (fun c_751 => ?_) (fun c_751 => absurd c_751 (by decide))
  refine lv_iload_n hx hb dX4_readEither_56 rfl (lv_at hl 3 rfl) ?_
  refine lv_if_ne (tgt := 65) hx hb dX4_readEither_57 (by decide) (fun c_752 => ?_) (fun c_752 => ?_)
  · refine lv_iconst (v := 1) hx hb dX4_readEither_65 (by decide) ?_
    refine lv_goto (tgt := 70) hx hb dX4_readEither_66 (by decide) ?_
    refine lv_istore_n (lv' := [(3, .int 1), (5, .int 1), (4, .int (nI i_85)), (2, .int x_86), (1, .int 4), (0, .ref rd)]) hx hb dX4_readEither_70 rfl hl (by decide) rfl (fun ls hl => ?_)
    refine lv_aload_n hx hb dX4_readEither_71 rfl (lv_at hl 5 rfl) ?_
    refine va_get (D := D) (ci := 4) (v := .ref tp) (C := RX4) (T := TX4) (N := 8) hx hb hts hin4 hown hK hP krd e_341 rfl 0 (by decide) (hts (.fieldLink RX4 12 "HoneyHouse$RuleReader" "tape" "LHoneyHouse$Tape;") (List.mem_of_getElem? (i := 1) rfl)) (fun _ h9 => h9) rfl dX4_readEither_72 ?_
    have hFc := free_all hD hS hA
    refine va_callv (va_runV (As := []) (rest := []) ⟨hx, hb, hml, hown, hts⟩ (a_advance l D ws_336 ty_337 tp ktp tl te_116 ya_123 (nI ts_115) bb k_136 c9_137 t_138 f_347 H.size (by omega) (by omega) e_342 e_346 u_348) (cwV 0 hts gX4_readEither_X6_advance rfl rfl rfl (by decide +kernel) ⟨Nat.le_of_ble_eq_true rfl, Nat.le_of_ble_eq_true rfl⟩) ⟨fun a U g mk q => by obtain ⟨q0, q1, qP, qK, qD⟩ := q; exact ⟨q0, q1, qP, va_K.moved (u := U) (U := U.calling g mk a) (Vm.Alike.refl U.vm) qK, qD⟩, va_recv hK hP (ci := 6) (q0 := ktp) rfl e_342, fun U hU hW => ⟨rfl, by rw [hU], by rw [hU]; exact hP, va_K.moved hW.alike hK, hD.weaken (fun _ _ _ _ => trivial)⟩⟩ rfl rfl hl.1 rfl (lv_room (Nat.le_of_ble_eq_true rfl)) dX4_readEither_75 ⟨Nat.le_of_ble_eq_true rfl, Nat.le_of_ble_eq_true rfl⟩) hS (fun q _ h => hFc q h) hFc (fun u t H1 locs ht hvm w_754 hB hz1 hk1 hS => ?_)
    obtain ⟨ws_755, ty_756, hm_757, ht_759, hP1, hK1, hD1, hx_758⟩ := hB
    rw [ht] at hP1
    have hK := va_K.moved hvm.symm hK1
    have hD := hD1.weaken (fun _ _ _ h => hFc _ h)
    generalize H1 = H at hP1 hS ⊢
    have hP := hP1
    have e_760 := hm_757.objK e_341 (by decide)
    obtain ⟨g_762, e_761, h_763⟩ := hm_757.obj e_342
    obtain ⟨z_764, z_765, z_766, z_767, rfl⟩ := smX6 h_763
    obtain ⟨f_769, e_768⟩ := hm_757.arrI e_343
    have u_770 := ht_759 _ _ u_345
    obtain ⟨f_772, e_771⟩ := hm_757.arrI e_346
    have u_773 := ht_759 _ _ u_348
    have hsm := hsm.tr (hm_757.mono (by decide))
    have hlp_93 := hlp_93.tr (hm_757.mono (by decide))
    have htx := htx.tr ht_759
    obtain ⟨k_774, s_775, e_776, h_777, h_778, h_779, e_780⟩ := hx_758
    refine lv_aload_n hx hb dX4_readEither_78 rfl (lv_at hl 5 rfl) ?_
    refine lv_iload_n hx hb dX4_readEither_79 rfl (lv_at hl 4 rfl) ?_
    have hFc := free_all hD hS hA
    refine va_calli (va_runV (As := [.int 4]) (rest := []) ⟨hx, hb, hml, hown, hts⟩ (r_readOne4 l D ws_755 ty_756 adK adV fo rd krd tp ktp cd bb tl  H.size (⟨s_775, e_776, cc_117, ra_118, rb_119, rc_120, rv_121, re_122, nI k_774, by omega, by omega, by omega, by omega, e_760, e_780, ⟨k_130, c9_131, t_132, f_769, e_768, u_770⟩, ⟨k_136, c9_137, t_138, f_772, e_771, u_773⟩⟩ : RS ws_755 ty_756 rd krd tp ktp cd bb tl)) (cwV 1 hts gX4_readEither_X4_readOne rfl rfl rfl (by decide +kernel) ⟨Nat.le_of_ble_eq_true rfl, Nat.le_of_ble_eq_true rfl⟩) ⟨fun a U g mk q => by obtain ⟨q0, q1, qP, qK, qD, qS⟩ := q; exact ⟨q0, q1, qP, va_K.moved (u := U) (U := U.calling g mk a) (Vm.Alike.refl U.vm) qK, qD, SZ.same rfl rfl qS⟩, va_recv hK hP (ci := 4) (q0 := krd) rfl e_760, fun U hU hW => ⟨rfl, by rw [hU], by rw [hU]; exact hP, va_K.moved hW.alike hK, hD.weaken (fun _ _ _ _ => trivial), hsz9.go hS hW hU hFc⟩⟩ rfl rfl hl.1 rfl (lv_room (Nat.le_of_ble_eq_true rfl)) dX4_readEither_80 ⟨Nat.le_of_ble_eq_true rfl, Nat.le_of_ble_eq_true rfl⟩) hS (fun q _ h => hFc q h) hFc (fun r_781 u t H1 locs ht hvm w_782 hB hz1 hk1 hS => ?_)
    obtain ⟨ws_783, ty_784, hm_785, ht_787, hP1, hK1, hD1, hx_786⟩ := hB
    rw [ht] at hP1
    have hK := va_K.moved hvm.symm hK1
    have hD := hD1.weaken (fun _ _ _ h => hFc _ h)
    generalize H1 = H at hP1 hS ⊢
    have hP := hP1
    obtain ⟨g_789, e_788, h_790⟩ := hm_785.obj e_760
    obtain ⟨z_791, z_792, z_793, z_794, z_795, z_796, rfl⟩ := smX4 h_790
    obtain ⟨g_798, e_797, h_799⟩ := hm_785.obj e_780
    obtain ⟨z_800, z_801, z_802, z_803, rfl⟩ := smX6 h_799
    obtain ⟨f_805, e_804⟩ := hm_785.arrI e_768
    have u_806 := ht_787 _ _ u_770
    obtain ⟨f_808, e_807⟩ := hm_785.arrI e_771
    have u_809 := ht_787 _ _ u_773
    have hsm := hsm.tr (hm_785.mono (by decide))
    have hlp_93 := hlp_93.tr (hm_785.mono (by decide))
    have htx := htx.tr ht_787
    obtain ⟨ts_810, te_811, cc_812, ra_813, rb_814, rc_815, rv_816, re_817, ya_818, h1_819, h2_820, h3_821, h4_822, er_823, et_824, ⟨k_825, c9_826, t_827, f_828, e_829, u_830⟩, ⟨k_831, c9_832, t_833, f_834, e_835, u_836⟩⟩ := id hx_786
    refine lv_istore_n (lv' := [(2, .int r_781), (3, .int 1), (5, .int 1), (4, .int (nI i_85)), (1, .int 4), (0, .ref rd)]) hx hb dX4_readEither_83 rfl hl (by decide) rfl (fun ls hl => ?_)
    refine lv_iload hx hb dX4_readEither_84 (lv_at hl 2 rfl) ?_
    refine lv_if_eq (tgt := 95) hx hb dX4_readEither_86 (by decide) (fun c_837 => absurd c_837 (by decide)) (fun c_837 => ?_)
    refine lv_aload_n hx hb dX4_readEither_89 rfl (lv_at hl 5 rfl) ?_
    refine lv_bipush (v := (-2)) hx hb dX4_readEither_90 (by decide) ?_
    have hFc := free_all hD hS hA
    refine va_callv (va_runV (As := [.int (-2)]) (rest := []) ⟨hx, hb, hml, hown, hts⟩ (r_addCode l D ws_783 ty_784 adK adV fo rd krd tp ktp cd bb tl (-2) H.size (⟨ts_810, te_811, cc_812, ra_813, rb_814, rc_815, rv_816, re_817, ya_818, by omega, by omega, by omega, by omega, er_823, et_824, ⟨k_825, c9_826, t_827, f_828, e_829, u_830⟩, ⟨k_831, c9_832, t_833, f_834, e_835, u_836⟩⟩ : RS ws_783 ty_784 rd krd tp ktp cd bb tl)) (cwV 1 hts gX4_readEither_X4_addCode rfl rfl rfl (by decide +kernel) ⟨Nat.le_of_ble_eq_true rfl, Nat.le_of_ble_eq_true rfl⟩) ⟨fun a U g mk q => by obtain ⟨q0, q1, qP, qK, qD, qS⟩ := q; exact ⟨q0, q1, qP, va_K.moved (u := U) (U := U.calling g mk a) (Vm.Alike.refl U.vm) qK, qD, SZ.same rfl rfl qS⟩, va_recv hK hP (ci := 4) (q0 := krd) rfl er_823, fun U hU hW => ⟨rfl, by rw [hU], by rw [hU]; exact hP, va_K.moved hW.alike hK, hD.weaken (fun _ _ _ _ => trivial), hsz9.go hS hW hU hFc⟩⟩ rfl rfl hl.1 rfl (lv_room (Nat.le_of_ble_eq_true rfl)) dX4_readEither_92 ⟨Nat.le_of_ble_eq_true rfl, Nat.le_of_ble_eq_true rfl⟩) hS (fun q _ h => hFc q h) hFc (fun u t H1 locs ht hvm w_839 hB hz1 hk1 hS => ?_)
    obtain ⟨ws_840, ty_841, hm_842, ht_844, hP1, hK1, hD1, hx_843⟩ := hB
    rw [ht] at hP1
    have hK := va_K.moved hvm.symm hK1
    have hD := hD1.weaken (fun _ _ _ h => hFc _ h)
    generalize H1 = H at hP1 hS ⊢
    have hP := hP1
    obtain ⟨g_846, e_845, h_847⟩ := hm_842.obj er_823
    obtain ⟨z_848, z_849, z_850, z_851, z_852, z_853, rfl⟩ := smX4 h_847
    obtain ⟨g_855, e_854, h_856⟩ := hm_842.obj et_824
    obtain ⟨z_857, z_858, z_859, z_860, rfl⟩ := smX6 h_856
    obtain ⟨f_862, e_861⟩ := hm_842.arrI e_829
    have u_863 := ht_844 _ _ u_830
    obtain ⟨f_865, e_864⟩ := hm_842.arrI e_835
    have u_866 := ht_844 _ _ u_836
    have hsm := hsm.tr (hm_842.mono (by decide))
    have hlp_93 := hlp_93.tr (hm_842.mono (by decide))
    have htx := htx.tr ht_844
    obtain ⟨ts_867, te_868, cc_869, ra_870, rb_871, rc_872, rv_873, re_874, ya_875, h1_876, h2_877, h3_878, h4_879, er_880, et_881, ⟨k_882, c9_883, t_884, f_885, e_886, u_887⟩, ⟨k_888, c9_889, t_890, f_891, e_892, u_893⟩⟩ := id hx_843
    refine lv_iinc (v := nI (i_85 + 1)) (lv' := [(4, .int (nI (i_85 + 1))), (2, .int r_781), (3, .int 1), (5, .int 1), (1, .int 4), (0, .ref rd)]) hx hb dX4_readEither_95 hl (k := 3) rfl (nI_add i_85 1) (by decide) rfl (fun ls hl => ?_)
    refine lv_goto (tgt := 11) hx hb dX4_readEither_98 (by decide) ?_
    exact ih_84 (i_85 + 1, r_781, 1) ws_840 _ _ ls (by show 400 - (i_85 + 1) < 400 - i_85; omega) ⟨hlp_93, (⟨ts_867, te_868, cc_869, ra_870, rb_871, rc_872, rv_873, re_874, ya_875, by omega, by omega, by omega, by omega, er_880, et_881, ⟨k_882, c9_883, t_884, f_885, e_886, u_887⟩, ⟨k_888, c9_889, t_890, f_891, e_892, u_893⟩⟩ : RS ws_840 ty_841 rd krd tp ktp cd bb tl), (show (i_85 + 1) ≤ 400 from by omega), (show r_781 = 0 ∨ r_781 = 1 from w_782), (show 1 = 0 ∨ 1 = 1 from Or.inr rfl)⟩ hP hD hS (lv_sub hl [0, 1, 2, 4, 5] rfl)
  refine lv_iload hx hb dX4_readEither_60 (lv_at hl 0 rfl) ?_
  refine lv_if_ne (tgt := 69) hx hb dX4_readEither_62 (by decide) (fun c_894 => ?_) (fun c_894 => absurd c_894 (by decide))
  refine lv_iconst (v := 0) hx hb dX4_readEither_69 (by decide) ?_
  refine lv_istore_n (lv' := [(3, .int 0), (5, .int 1), (4, .int (nI i_85)), (2, .int x_86), (1, .int 4), (0, .ref rd)]) hx hb dX4_readEither_70 rfl hl (by decide) rfl (fun ls hl => ?_)
  refine lv_aload_n hx hb dX4_readEither_71 rfl (lv_at hl 5 rfl) ?_
  refine va_get (D := D) (ci := 4) (v := .ref tp) (C := RX4) (T := TX4) (N := 8) hx hb hts hin4 hown hK hP krd e_341 rfl 0 (by decide) (hts (.fieldLink RX4 12 "HoneyHouse$RuleReader" "tape" "LHoneyHouse$Tape;") (List.mem_of_getElem? (i := 1) rfl)) (fun _ h9 => h9) rfl dX4_readEither_72 ?_
  have hFc := free_all hD hS hA
  refine va_callv (va_runV (As := []) (rest := []) ⟨hx, hb, hml, hown, hts⟩ (a_advance l D ws_336 ty_337 tp ktp tl te_116 ya_123 (nI ts_115) bb k_136 c9_137 t_138 f_347 H.size (by omega) (by omega) e_342 e_346 u_348) (cwV 0 hts gX4_readEither_X6_advance rfl rfl rfl (by decide +kernel) ⟨Nat.le_of_ble_eq_true rfl, Nat.le_of_ble_eq_true rfl⟩) ⟨fun a U g mk q => by obtain ⟨q0, q1, qP, qK, qD⟩ := q; exact ⟨q0, q1, qP, va_K.moved (u := U) (U := U.calling g mk a) (Vm.Alike.refl U.vm) qK, qD⟩, va_recv hK hP (ci := 6) (q0 := ktp) rfl e_342, fun U hU hW => ⟨rfl, by rw [hU], by rw [hU]; exact hP, va_K.moved hW.alike hK, hD.weaken (fun _ _ _ _ => trivial)⟩⟩ rfl rfl hl.1 rfl (lv_room (Nat.le_of_ble_eq_true rfl)) dX4_readEither_75 ⟨Nat.le_of_ble_eq_true rfl, Nat.le_of_ble_eq_true rfl⟩) hS (fun q _ h => hFc q h) hFc (fun u t H1 locs ht hvm w_896 hB hz1 hk1 hS => ?_)
  obtain ⟨ws_897, ty_898, hm_899, ht_901, hP1, hK1, hD1, hx_900⟩ := hB
  rw [ht] at hP1
  have hK := va_K.moved hvm.symm hK1
  have hD := hD1.weaken (fun _ _ _ h => hFc _ h)
  generalize H1 = H at hP1 hS ⊢
  have hP := hP1
  have e_902 := hm_899.objK e_341 (by decide)
  obtain ⟨g_904, e_903, h_905⟩ := hm_899.obj e_342
  obtain ⟨z_906, z_907, z_908, z_909, rfl⟩ := smX6 h_905
  obtain ⟨f_911, e_910⟩ := hm_899.arrI e_343
  have u_912 := ht_901 _ _ u_345
  obtain ⟨f_914, e_913⟩ := hm_899.arrI e_346
  have u_915 := ht_901 _ _ u_348
  have hsm := hsm.tr (hm_899.mono (by decide))
  have hlp_93 := hlp_93.tr (hm_899.mono (by decide))
  have htx := htx.tr ht_901
  obtain ⟨k_916, s_917, e_918, h_919, h_920, h_921, e_922⟩ := hx_900
  refine lv_aload_n hx hb dX4_readEither_78 rfl (lv_at hl 5 rfl) ?_
  refine lv_iload_n hx hb dX4_readEither_79 rfl (lv_at hl 4 rfl) ?_
  have hFc := free_all hD hS hA
  refine va_calli (va_runV (As := [.int 4]) (rest := []) ⟨hx, hb, hml, hown, hts⟩ (r_readOne4 l D ws_897 ty_898 adK adV fo rd krd tp ktp cd bb tl  H.size (⟨s_917, e_918, cc_117, ra_118, rb_119, rc_120, rv_121, re_122, nI k_916, by omega, by omega, by omega, by omega, e_902, e_922, ⟨k_130, c9_131, t_132, f_911, e_910, u_912⟩, ⟨k_136, c9_137, t_138, f_914, e_913, u_915⟩⟩ : RS ws_897 ty_898 rd krd tp ktp cd bb tl)) (cwV 1 hts gX4_readEither_X4_readOne rfl rfl rfl (by decide +kernel) ⟨Nat.le_of_ble_eq_true rfl, Nat.le_of_ble_eq_true rfl⟩) ⟨fun a U g mk q => by obtain ⟨q0, q1, qP, qK, qD, qS⟩ := q; exact ⟨q0, q1, qP, va_K.moved (u := U) (U := U.calling g mk a) (Vm.Alike.refl U.vm) qK, qD, SZ.same rfl rfl qS⟩, va_recv hK hP (ci := 4) (q0 := krd) rfl e_902, fun U hU hW => ⟨rfl, by rw [hU], by rw [hU]; exact hP, va_K.moved hW.alike hK, hD.weaken (fun _ _ _ _ => trivial), hsz9.go hS hW hU hFc⟩⟩ rfl rfl hl.1 rfl (lv_room (Nat.le_of_ble_eq_true rfl)) dX4_readEither_80 ⟨Nat.le_of_ble_eq_true rfl, Nat.le_of_ble_eq_true rfl⟩) hS (fun q _ h => hFc q h) hFc (fun r_923 u t H1 locs ht hvm w_924 hB hz1 hk1 hS => ?_)
  obtain ⟨ws_925, ty_926, hm_927, ht_929, hP1, hK1, hD1, hx_928⟩ := hB
  rw [ht] at hP1
  have hK := va_K.moved hvm.symm hK1
  have hD := hD1.weaken (fun _ _ _ h => hFc _ h)
  generalize H1 = H at hP1 hS ⊢
  have hP := hP1
  obtain ⟨g_931, e_930, h_932⟩ := hm_927.obj e_902
  obtain ⟨z_933, z_934, z_935, z_936, z_937, z_938, rfl⟩ := smX4 h_932
  obtain ⟨g_940, e_939, h_941⟩ := hm_927.obj e_922
  obtain ⟨z_942, z_943, z_944, z_945, rfl⟩ := smX6 h_941
  obtain ⟨f_947, e_946⟩ := hm_927.arrI e_910
  have u_948 := ht_929 _ _ u_912
  obtain ⟨f_950, e_949⟩ := hm_927.arrI e_913
  have u_951 := ht_929 _ _ u_915
  have hsm := hsm.tr (hm_927.mono (by decide))
  have hlp_93 := hlp_93.tr (hm_927.mono (by decide))
  have htx := htx.tr ht_929
  obtain ⟨ts_952, te_953, cc_954, ra_955, rb_956, rc_957, rv_958, re_959, ya_960, h1_961, h2_962, h3_963, h4_964, er_965, et_966, ⟨k_967, c9_968, t_969, f_970, e_971, u_972⟩, ⟨k_973, c9_974, t_975, f_976, e_977, u_978⟩⟩ := id hx_928
  refine lv_istore_n (lv' := [(2, .int r_923), (3, .int 0), (5, .int 1), (4, .int (nI i_85)), (1, .int 4), (0, .ref rd)]) hx hb dX4_readEither_83 rfl hl (by decide) rfl (fun ls hl => ?_)
  refine lv_iload hx hb dX4_readEither_84 (lv_at hl 2 rfl) ?_
  refine lv_if_eq (tgt := 95) hx hb dX4_readEither_86 (by decide) (fun c_979 => absurd c_979 (by decide)) (fun c_979 => ?_)
  refine lv_aload_n hx hb dX4_readEither_89 rfl (lv_at hl 5 rfl) ?_
  refine lv_bipush (v := (-2)) hx hb dX4_readEither_90 (by decide) ?_
  have hFc := free_all hD hS hA
  refine va_callv (va_runV (As := [.int (-2)]) (rest := []) ⟨hx, hb, hml, hown, hts⟩ (r_addCode l D ws_925 ty_926 adK adV fo rd krd tp ktp cd bb tl (-2) H.size (⟨ts_952, te_953, cc_954, ra_955, rb_956, rc_957, rv_958, re_959, ya_960, by omega, by omega, by omega, by omega, er_965, et_966, ⟨k_967, c9_968, t_969, f_970, e_971, u_972⟩, ⟨k_973, c9_974, t_975, f_976, e_977, u_978⟩⟩ : RS ws_925 ty_926 rd krd tp ktp cd bb tl)) (cwV 1 hts gX4_readEither_X4_addCode rfl rfl rfl (by decide +kernel) ⟨Nat.le_of_ble_eq_true rfl, Nat.le_of_ble_eq_true rfl⟩) ⟨fun a U g mk q => by obtain ⟨q0, q1, qP, qK, qD, qS⟩ := q; exact ⟨q0, q1, qP, va_K.moved (u := U) (U := U.calling g mk a) (Vm.Alike.refl U.vm) qK, qD, SZ.same rfl rfl qS⟩, va_recv hK hP (ci := 4) (q0 := krd) rfl er_965, fun U hU hW => ⟨rfl, by rw [hU], by rw [hU]; exact hP, va_K.moved hW.alike hK, hD.weaken (fun _ _ _ _ => trivial), hsz9.go hS hW hU hFc⟩⟩ rfl rfl hl.1 rfl (lv_room (Nat.le_of_ble_eq_true rfl)) dX4_readEither_92 ⟨Nat.le_of_ble_eq_true rfl, Nat.le_of_ble_eq_true rfl⟩) hS (fun q _ h => hFc q h) hFc (fun u t H1 locs ht hvm w_981 hB hz1 hk1 hS => ?_)
  obtain ⟨ws_982, ty_983, hm_984, ht_986, hP1, hK1, hD1, hx_985⟩ := hB
  rw [ht] at hP1
  have hK := va_K.moved hvm.symm hK1
  have hD := hD1.weaken (fun _ _ _ h => hFc _ h)
  generalize H1 = H at hP1 hS ⊢
  have hP := hP1
  obtain ⟨g_988, e_987, h_989⟩ := hm_984.obj er_965
  obtain ⟨z_990, z_991, z_992, z_993, z_994, z_995, rfl⟩ := smX4 h_989
  obtain ⟨g_997, e_996, h_998⟩ := hm_984.obj et_966
  obtain ⟨z_999, z_1000, z_1001, z_1002, rfl⟩ := smX6 h_998
  obtain ⟨f_1004, e_1003⟩ := hm_984.arrI e_971
  have u_1005 := ht_986 _ _ u_972
  obtain ⟨f_1007, e_1006⟩ := hm_984.arrI e_977
  have u_1008 := ht_986 _ _ u_978
  have hsm := hsm.tr (hm_984.mono (by decide))
  have hlp_93 := hlp_93.tr (hm_984.mono (by decide))
  have htx := htx.tr ht_986
  obtain ⟨ts_1009, te_1010, cc_1011, ra_1012, rb_1013, rc_1014, rv_1015, re_1016, ya_1017, h1_1018, h2_1019, h3_1020, h4_1021, er_1022, et_1023, ⟨k_1024, c9_1025, t_1026, f_1027, e_1028, u_1029⟩, ⟨k_1030, c9_1031, t_1032, f_1033, e_1034, u_1035⟩⟩ := id hx_985
  refine lv_iinc (v := nI (i_85 + 1)) (lv' := [(4, .int (nI (i_85 + 1))), (2, .int r_923), (3, .int 0), (5, .int 1), (1, .int 4), (0, .ref rd)]) hx hb dX4_readEither_95 hl (k := 3) rfl (nI_add i_85 1) (by decide) rfl (fun ls hl => ?_)
  refine lv_goto (tgt := 11) hx hb dX4_readEither_98 (by decide) ?_
  exact ih_84 (i_85 + 1, r_923, 0) ws_982 _ _ ls (by show 400 - (i_85 + 1) < 400 - i_85; omega) ⟨hlp_93, (⟨ts_1009, te_1010, cc_1011, ra_1012, rb_1013, rc_1014, rv_1015, re_1016, ya_1017, by omega, by omega, by omega, by omega, er_1022, et_1023, ⟨k_1024, c9_1025, t_1026, f_1027, e_1028, u_1029⟩, ⟨k_1030, c9_1031, t_1032, f_1033, e_1034, u_1035⟩⟩ : RS ws_982 ty_983 rd krd tp ktp cd bb tl), (show (i_85 + 1) ≤ 400 from by omega), (show r_923 = 0 ∨ r_923 = 1 from w_924), (show 0 = 0 ∨ 0 = 1 from Or.inl rfl)⟩ hP hD hS (lv_sub hl [0, 1, 2, 4, 5] rfl)
set_option maxHeartbeats 4000000 in
set_option maxRecDepth 100000 in
theorem r_readOne3 (l : Launch) (D : va_G) (ws : va_W) (tys : List (ClassId × FieldType)) (adK adV : Nat → Nat) (fo : Option Nat) (rd krd tp ktp cd bb tl : Nat)  (sz : Nat) (R0 : RS ws tys rd krd tp ktp cd bb tl)  : Met l yX4_readOne wsX4_readOne ({ frames := 13, cells := 0, slots := 0, locals := 293 }) (va_Pc [.ref rd, .int 3] (fun U => U.heap.size = sz ∧ va_P D vwCl ws U.heap ∧ va_K D vwCl tys U ∧ va_D (fun _ => True) ws ∧ SZ adK adV fo (va_A ws sz) U U.heap)) (va_Qi (fun (r : Int32) (_ : Unit) => r = 0 ∨ r = 1) (fun (_ : Unit) (t : State) => ∃ (ws' : va_W) (tys' : List (ClassId × FieldType)), sm [4, 6] ws ws' ∧ tyx tys tys' ∧ va_P D vwCl ws' t.heap ∧ va_K D vwCl tys' t ∧ va_D (va_A ws sz) ws' ∧ RS ws' tys' rd krd tp ktp cd bb tl) (va_A ws sz)) 0 0 (va_A ws sz) := by
  refine Met.ofW (cc := cX4_readOne) (maxL := 4) (ret := (some .boolean)) (by decide) rfl ?_
  intro p e s m args below meth c s₁ B hml hv
  obtain ⟨rfl, hsz, hP, hK, hD0, hsz9⟩ := hv
  have hx := B.exec
  have hb := B.bytes
  have hr := B.returns
  have hts := atoms_spec (ws := wsX4_readOne) B.pre
  have hown : s.vm.findClass RX4 = some m.cls := findClass_of_methodNamed B.named
  have hlocks := B.notSynchronized
  subst hsz
  have hD := hD0.self (sz := s.heap.size)
  generalize hAe : va_A ws s.heap.size = A at hD hsz9 ⊢
  have hA : ∀ q : Nat, s.heap.size ≤ q → A q := fun q h => by rw [← hAe]; exact Or.inr h
  have hS : va_S A s.heap s.heap [] := va_S.rf
  have hsm : sm [4, 6] ws ws := sm.rf ws
  have htx : tyx tys tys := tyx.rf tys
  have hin4 : ∀ w ∈ u_ws RX4 TX4 8, w ∈ wsX4_readOne := (fun _ h9 => List.mem_cons_of_mem _ (List.mem_append_left _ ((List.mem_append_right _ h9))))
  have hl := lv_entry ([.ref rd, .int 3]) (n := 4) (Nat.le_of_ble_eq_true rfl)
  rw [lg_entry_eq]
  generalize (lg_sl ([.ref rd, .int 3]) ++ List.replicate (4 - (lg_sl ([.ref rd, .int 3])).length) Slot.unset).toArray = ls at hl ⊢
  have hl : lv_has ls 4 [(0, .ref rd), (1, .int 3)] := hl
  obtain ⟨ts_1, te_2, cc_3, ra_4, rb_5, rc_6, rv_7, re_8, ya_9, h1_10, h2_11, h3_12, h4_13, er_14, et_15, ⟨k_16, c9_17, t_18, f_19, e_20, u_21⟩, ⟨k_22, c9_23, t_24, f_25, e_26, u_27⟩⟩ := id R0
  refine lv_aload_n hx hb dX4_readOne_0 rfl (lv_at hl 0 rfl) ?_
  refine va_get (D := D) (ci := 4) (v := .ref tp) (C := RX4) (T := TX4) (N := 8) hx hb hts hin4 hown hK hP krd er_14 rfl 0 (by decide) (hts (.fieldLink RX4 12 "HoneyHouse$RuleReader" "tape" "LHoneyHouse$Tape;") (List.mem_of_getElem? (i := 1) rfl)) (fun _ h9 => h9) rfl dX4_readOne_1 ?_
  refine va_ldcS hx hb hown hsz9.2.2.2.2.2.2.1 dX4_readOne_4 ?_
  have hFc := free_all hD hS hA
  refine va_calli (va_runV (As := [.ref (adK 3)]) (rest := []) ⟨hx, hb, hml, hown, hts⟩ (a_isWord l D ws tys adK adV fo 3 tp ktp tl ya_9 (nI ts_1) (nI te_2) bb k_22 c9_23 t_24 f_25 s.heap.size (by decide) et_15 e_26 u_27) (cwV 1 hts gX4_readOne_X6_isWord rfl rfl rfl (by decide +kernel) ⟨Nat.le_of_ble_eq_true rfl, Nat.le_of_ble_eq_true rfl⟩) ⟨fun a U g mk q => by obtain ⟨q0, q1, qP, qK, qD, qS⟩ := q; exact ⟨q0, q1, qP, va_K.moved (u := U) (U := U.calling g mk a) (Vm.Alike.refl U.vm) qK, qD, SZ.same rfl rfl qS⟩, va_recv hK hP (ci := 6) (q0 := ktp) rfl et_15, fun U hU hW => ⟨rfl, by rw [hU], by rw [hU]; exact hP, va_K.moved hW.alike hK, hD.weaken (fun _ _ _ _ => trivial), hsz9.go hS hW hU hFc⟩⟩ rfl rfl hl.1 rfl (lv_room (Nat.le_of_ble_eq_true rfl)) dX4_readOne_6 ⟨Nat.le_of_ble_eq_true rfl, Nat.le_of_ble_eq_true rfl⟩) hS (fun q _ h => hFc q h) hFc (fun r_28 u t H1 locs ht hvm w_29 hB hz1 hk1 hS => ?_)
  obtain ⟨ws_30, ty_31, hm_32, ht_34, hP1, hK1, hD1, hx_33⟩ := hB
  rw [ht] at hP1
  have hK := va_K.moved hvm.symm hK1
  have hD := hD1.weaken (fun _ _ _ h => hFc _ h)
  generalize H1 = H at hP1 hS ⊢
  have hP := hP1
  have e_35 := hm_32.objK er_14 (by decide)
  have e_36 := hm_32.objK et_15 (by decide)
  obtain ⟨f_38, e_37⟩ := hm_32.arrI e_20
  have u_39 := ht_34 _ _ u_21
  obtain ⟨f_41, e_40⟩ := hm_32.arrI e_26
  have u_42 := ht_34 _ _ u_27
  have hsm := hsm.tr (hm_32.mono (by decide))
  have htx := htx.tr ht_34
  rcases w_29 with rfl | rfl
  · refine lv_istore_n (lv' := [(2, .int 0), (0, .ref rd), (1, .int 3)]) hx hb dX4_readOne_9 rfl hl (by decide) rfl (fun ls hl => ?_)
    refine lv_iload_n hx hb dX4_readOne_10 rfl (lv_at hl 0 rfl) ?_
    refine lv_if_ne (tgt := 31) hx hb dX4_readOne_11 (by decide) (fun c_43 => absurd (by decide) c_43) (fun c_43 => ?_)
    refine lv_aload_n hx hb dX4_readOne_14 rfl (lv_at hl 1 rfl) ?_
    refine va_get (D := D) (ci := 4) (v := .ref tp) (C := RX4) (T := TX4) (N := 8) hx hb hts hin4 hown hK hP krd e_35 rfl 0 (by decide) (hts (.fieldLink RX4 12 "HoneyHouse$RuleReader" "tape" "LHoneyHouse$Tape;") (List.mem_of_getElem? (i := 1) rfl)) (fun _ h9 => h9) rfl dX4_readOne_15 ?_
    refine lv_bipush (v := 40) hx hb dX4_readOne_18 (by decide) ?_
    refine vp_callSi (W.runV (As := [.int 40]) (rest := []) ⟨hx, hb, hml, hown, hts⟩ (s_isByte l D ws_30 ty_31 tp ktp tl ya_9 (nI ts_1) (nI te_2) bb k_22 c9_23 t_24 f_41 40 e_36 e_40 u_42) (cwV 1 hts gX4_readOne_X6_isByte rfl rfl rfl (by decide +kernel) ⟨Nat.le_of_ble_eq_true rfl, Nat.le_of_ble_eq_true rfl⟩) ⟨fun a U g mk q => ⟨q.1, q.2.1, va_K.moved (u := U) (U := U.calling g mk a) (Vm.Alike.refl U.vm) q.2.2⟩, va_recv hK hP (ci := 6) (q0 := ktp) rfl e_36, fun U hU hW => ⟨rfl, by rw [hU]; exact hP, va_K.moved hW.alike hK⟩⟩ rfl rfl hl.1 rfl (lv_room (Nat.le_of_ble_eq_true rfl)) dX4_readOne_20 ⟨Nat.le_of_ble_eq_true rfl, Nat.le_of_ble_eq_true rfl⟩) (fun r_44 k_45 => ?_)
    rcases k_45 with rfl | rfl
    · refine lv_if_ne (tgt := 31) hx hb dX4_readOne_23 (by decide) (fun c_46 => absurd (by decide) c_46) (fun c_46 => ?_)
      refine lv_aload_n hx hb dX4_readOne_26 rfl (lv_at hl 1 rfl) ?_
      have hFc := free_all hD hS hA
      refine va_calli (va_runV (As := []) (rest := []) ⟨hx, hb, hml, hown, hts⟩ (r_readTest l D ws_30 ty_31 adK adV fo rd krd tp ktp cd bb tl  H.size (⟨ts_1, te_2, cc_3, ra_4, rb_5, rc_6, rv_7, re_8, ya_9, by omega, by omega, by omega, by omega, e_35, e_36, ⟨k_16, c9_17, t_18, f_38, e_37, u_39⟩, ⟨k_22, c9_23, t_24, f_41, e_40, u_42⟩⟩ : RS ws_30 ty_31 rd krd tp ktp cd bb tl)) (cwV 0 hts gX4_readOne_X4_readTest rfl rfl rfl (by decide +kernel) ⟨Nat.le_of_ble_eq_true rfl, Nat.le_of_ble_eq_true rfl⟩) ⟨fun a U g mk q => by obtain ⟨q0, q1, qP, qK, qD, qS⟩ := q; exact ⟨q0, q1, qP, va_K.moved (u := U) (U := U.calling g mk a) (Vm.Alike.refl U.vm) qK, qD, SZ.same rfl rfl qS⟩, va_recv hK hP (ci := 4) (q0 := krd) rfl e_35, fun U hU hW => ⟨rfl, by rw [hU], by rw [hU]; exact hP, va_K.moved hW.alike hK, hD.weaken (fun _ _ _ _ => trivial), hsz9.go hS hW hU hFc⟩⟩ rfl rfl hl.1 rfl (lv_room (Nat.le_of_ble_eq_true rfl)) dX4_readOne_27 ⟨Nat.le_of_ble_eq_true rfl, Nat.le_of_ble_eq_true rfl⟩) hS (fun q _ h => hFc q h) hFc (fun r_47 u t H1 locs ht hvm w_48 hB hz1 hk1 hS => ?_)
      obtain ⟨ws_49, ty_50, hm_51, ht_53, hP1, hK1, hD1, hx_52⟩ := hB
      rw [ht] at hP1
      have hK := va_K.moved hvm.symm hK1
      have hD := hD1.weaken (fun _ _ _ h => hFc _ h)
      generalize H1 = H at hP1 hS ⊢
      have hP := hP1
      obtain ⟨g_55, e_54, h_56⟩ := hm_51.obj e_35
      obtain ⟨z_57, z_58, z_59, z_60, z_61, z_62, rfl⟩ := smX4 h_56
      obtain ⟨g_64, e_63, h_65⟩ := hm_51.obj e_36
      obtain ⟨z_66, z_67, z_68, z_69, rfl⟩ := smX6 h_65
      obtain ⟨f_71, e_70⟩ := hm_51.arrI e_37
      have u_72 := ht_53 _ _ u_39
      obtain ⟨f_74, e_73⟩ := hm_51.arrI e_40
      have u_75 := ht_53 _ _ u_42
      have hsm := hsm.tr (hm_51.mono (by decide))
      have htx := htx.tr ht_53
      obtain ⟨ts_76, te_77, cc_78, ra_79, rb_80, rc_81, rv_82, re_83, ya_84, h1_85, h2_86, h3_87, h4_88, er_89, et_90, ⟨k_91, c9_92, t_93, f_94, e_95, u_96⟩, ⟨k_97, c9_98, t_99, f_100, e_101, u_102⟩⟩ := id hx_52
      exact W.zret (v := r_47) hx hb hr (by rcases w_48 with h9 | h9 <;> rw [h9] <;> rfl) (fun t ht hW => ⟨⟨r_47, (), rfl, w_48, ws_49, ty_50, hsm, htx, by rw [ht]; exact hP, va_K.moved hW.alike hK, hD, (⟨ts_76, te_77, cc_78, ra_79, rb_80, rc_81, rv_82, re_83, ya_84, by omega, by omega, by omega, by omega, er_89, et_90, ⟨k_91, c9_92, t_93, f_94, e_95, u_96⟩, ⟨k_97, c9_98, t_99, f_100, e_101, u_102⟩⟩ : RS ws_49 ty_50 rd krd tp ktp cd bb tl)⟩, hS.F ht⟩) hS.2.2 dX4_readOne_30
    refine lv_if_ne (tgt := 31) hx hb dX4_readOne_23 (by decide) (fun c_103 => ?_) (fun c_103 => absurd c_103 (by decide))
    refine lv_iload_n hx hb dX4_readOne_31 rfl (lv_at hl 2 rfl) ?_
    refine lv_bipush (v := 6) hx hb dX4_readOne_32 (by decide) ?_
    refine lv_icmp_lt (tgt := 50) hx hb dX4_readOne_34 (by decide) (fun c_104 => ?_) (fun c_104 => absurd (by decide) c_104)
    refine lv_aload_n hx hb dX4_readOne_50 rfl (lv_at hl 1 rfl) ?_
    refine va_get (D := D) (ci := 4) (v := .ref tp) (C := RX4) (T := TX4) (N := 8) hx hb hts hin4 hown hK hP krd e_35 rfl 0 (by decide) (hts (.fieldLink RX4 12 "HoneyHouse$RuleReader" "tape" "LHoneyHouse$Tape;") (List.mem_of_getElem? (i := 1) rfl)) (fun _ h9 => h9) rfl dX4_readOne_51 ?_
    have hFc := free_all hD hS hA
    refine va_callv (va_runV (As := []) (rest := []) ⟨hx, hb, hml, hown, hts⟩ (a_advance l D ws_30 ty_31 tp ktp tl te_2 ya_9 (nI ts_1) bb k_22 c9_23 t_24 f_41 H.size (by omega) (by omega) e_36 e_40 u_42) (cwV 0 hts gX4_readOne_X6_advance rfl rfl rfl (by decide +kernel) ⟨Nat.le_of_ble_eq_true rfl, Nat.le_of_ble_eq_true rfl⟩) ⟨fun a U g mk q => by obtain ⟨q0, q1, qP, qK, qD⟩ := q; exact ⟨q0, q1, qP, va_K.moved (u := U) (U := U.calling g mk a) (Vm.Alike.refl U.vm) qK, qD⟩, va_recv hK hP (ci := 6) (q0 := ktp) rfl e_36, fun U hU hW => ⟨rfl, by rw [hU], by rw [hU]; exact hP, va_K.moved hW.alike hK, hD.weaken (fun _ _ _ _ => trivial)⟩⟩ rfl rfl hl.1 rfl (lv_room (Nat.le_of_ble_eq_true rfl)) dX4_readOne_54 ⟨Nat.le_of_ble_eq_true rfl, Nat.le_of_ble_eq_true rfl⟩) hS (fun q _ h => hFc q h) hFc (fun u t H1 locs ht hvm w_106 hB hz1 hk1 hS => ?_)
    obtain ⟨ws_107, ty_108, hm_109, ht_111, hP1, hK1, hD1, hx_110⟩ := hB
    rw [ht] at hP1
    have hK := va_K.moved hvm.symm hK1
    have hD := hD1.weaken (fun _ _ _ h => hFc _ h)
    generalize H1 = H at hP1 hS ⊢
    have hP := hP1
    have e_112 := hm_109.objK e_35 (by decide)
    obtain ⟨g_114, e_113, h_115⟩ := hm_109.obj e_36
    obtain ⟨z_116, z_117, z_118, z_119, rfl⟩ := smX6 h_115
    obtain ⟨f_121, e_120⟩ := hm_109.arrI e_37
    have u_122 := ht_111 _ _ u_39
    obtain ⟨f_124, e_123⟩ := hm_109.arrI e_40
    have u_125 := ht_111 _ _ u_42
    have hsm := hsm.tr (hm_109.mono (by decide))
    have htx := htx.tr ht_111
    obtain ⟨k_126, s_127, e_128, h_129, h_130, h_131, e_132⟩ := hx_110
    refine lv_iload_n hx hb dX4_readOne_57 rfl (lv_at hl 0 rfl) ?_
    refine lv_if_ne (tgt := 86) hx hb dX4_readOne_58 (by decide) (fun c_133 => absurd (by decide) c_133) (fun c_133 => ?_)
    refine lv_aload_n hx hb dX4_readOne_61 rfl (lv_at hl 1 rfl) ?_
    refine lv_iload_n hx hb dX4_readOne_62 rfl (lv_at hl 2 rfl) ?_
    refine lv_iconst (v := 1) hx hb dX4_readOne_63 (by decide) ?_
    refine lv_iadd hx hb dX4_readOne_64 ?_
    refine tp_i (y := 4) (by decide) ?_
    have hFc := free_all hD hS hA
    refine va_calli (va_runV (As := [.int 4]) (rest := []) ⟨hx, hb, hml, hown, hts⟩ (r_readEither4 l D ws_107 ty_108 adK adV fo rd krd tp ktp cd bb tl  H.size (⟨s_127, e_128, cc_3, ra_4, rb_5, rc_6, rv_7, re_8, nI k_126, by omega, by omega, by omega, by omega, e_112, e_132, ⟨k_16, c9_17, t_18, f_121, e_120, u_122⟩, ⟨k_22, c9_23, t_24, f_124, e_123, u_125⟩⟩ : RS ws_107 ty_108 rd krd tp ktp cd bb tl)) (cwV 1 hts gX4_readOne_X4_readEither rfl rfl rfl (by decide +kernel) ⟨Nat.le_of_ble_eq_true rfl, Nat.le_of_ble_eq_true rfl⟩) ⟨fun a U g mk q => by obtain ⟨q0, q1, qP, qK, qD, qS⟩ := q; exact ⟨q0, q1, qP, va_K.moved (u := U) (U := U.calling g mk a) (Vm.Alike.refl U.vm) qK, qD, SZ.same rfl rfl qS⟩, va_recv hK hP (ci := 4) (q0 := krd) rfl e_112, fun U hU hW => ⟨rfl, by rw [hU], by rw [hU]; exact hP, va_K.moved hW.alike hK, hD.weaken (fun _ _ _ _ => trivial), hsz9.go hS hW hU hFc⟩⟩ rfl rfl hl.1 rfl (lv_room (Nat.le_of_ble_eq_true rfl)) dX4_readOne_65 ⟨Nat.le_of_ble_eq_true rfl, Nat.le_of_ble_eq_true rfl⟩) hS (fun q _ h => hFc q h) hFc (fun r_134 u t H1 locs ht hvm w_135 hB hz1 hk1 hS => ?_)
    obtain ⟨ws_136, ty_137, hm_138, ht_140, hP1, hK1, hD1, hx_139⟩ := hB
    rw [ht] at hP1
    have hK := va_K.moved hvm.symm hK1
    have hD := hD1.weaken (fun _ _ _ h => hFc _ h)
    generalize H1 = H at hP1 hS ⊢
    have hP := hP1
    obtain ⟨g_142, e_141, h_143⟩ := hm_138.obj e_112
    obtain ⟨z_144, z_145, z_146, z_147, z_148, z_149, rfl⟩ := smX4 h_143
    obtain ⟨g_151, e_150, h_152⟩ := hm_138.obj e_132
    obtain ⟨z_153, z_154, z_155, z_156, rfl⟩ := smX6 h_152
    obtain ⟨f_158, e_157⟩ := hm_138.arrI e_120
    have u_159 := ht_140 _ _ u_122
    obtain ⟨f_161, e_160⟩ := hm_138.arrI e_123
    have u_162 := ht_140 _ _ u_125
    have hsm := hsm.tr (hm_138.mono (by decide))
    have htx := htx.tr ht_140
    obtain ⟨ts_163, te_164, cc_165, ra_166, rb_167, rc_168, rv_169, re_170, ya_171, h1_172, h2_173, h3_174, h4_175, er_176, et_177, ⟨k_178, c9_179, t_180, f_181, e_182, u_183⟩, ⟨k_184, c9_185, t_186, f_187, e_188, u_189⟩⟩ := id hx_139
    refine lv_if_eq (tgt := 84) hx hb dX4_readOne_68 (by decide) (fun c_190 => ?_) (fun c_190 => ?_)
    · refine lv_iconst (v := 0) hx hb dX4_readOne_84 (by decide) ?_
      exact W.zret (v := 0) hx hb hr rfl (fun t ht hW => ⟨⟨0, (), rfl, Or.inl rfl, ws_136, ty_137, hsm, htx, by rw [ht]; exact hP, va_K.moved hW.alike hK, hD, (⟨ts_163, te_164, cc_165, ra_166, rb_167, rc_168, rv_169, re_170, ya_171, by omega, by omega, by omega, by omega, er_176, et_177, ⟨k_178, c9_179, t_180, f_181, e_182, u_183⟩, ⟨k_184, c9_185, t_186, f_187, e_188, u_189⟩⟩ : RS ws_136 ty_137 rd krd tp ktp cd bb tl)⟩, hS.F ht⟩) hS.2.2 dX4_readOne_85
    refine lv_aload_n hx hb dX4_readOne_71 rfl (lv_at hl 1 rfl) ?_
    refine lv_bipush (v := 41) hx hb dX4_readOne_72 (by decide) ?_
    have hFc := free_all hD hS hA
    refine va_calli (va_runV (As := [.int 41]) (rest := []) ⟨hx, hb, hml, hown, hts⟩ (r_readByte l D ws_136 ty_137 adK adV fo rd krd tp ktp cd bb tl 41 H.size (⟨ts_163, te_164, cc_165, ra_166, rb_167, rc_168, rv_169, re_170, ya_171, by omega, by omega, by omega, by omega, er_176, et_177, ⟨k_178, c9_179, t_180, f_181, e_182, u_183⟩, ⟨k_184, c9_185, t_186, f_187, e_188, u_189⟩⟩ : RS ws_136 ty_137 rd krd tp ktp cd bb tl)) (cwV 1 hts gX4_readOne_X4_readByte rfl rfl rfl (by decide +kernel) ⟨Nat.le_of_ble_eq_true rfl, Nat.le_of_ble_eq_true rfl⟩) ⟨fun a U g mk q => by obtain ⟨q0, q1, qP, qK, qD, qS⟩ := q; exact ⟨q0, q1, qP, va_K.moved (u := U) (U := U.calling g mk a) (Vm.Alike.refl U.vm) qK, qD, SZ.same rfl rfl qS⟩, va_recv hK hP (ci := 4) (q0 := krd) rfl er_176, fun U hU hW => ⟨rfl, by rw [hU], by rw [hU]; exact hP, va_K.moved hW.alike hK, hD.weaken (fun _ _ _ _ => trivial), hsz9.go hS hW hU hFc⟩⟩ rfl rfl hl.1 rfl (lv_room (Nat.le_of_ble_eq_true rfl)) dX4_readOne_74 ⟨Nat.le_of_ble_eq_true rfl, Nat.le_of_ble_eq_true rfl⟩) hS (fun q _ h => hFc q h) hFc (fun r_191 u t H1 locs ht hvm w_192 hB hz1 hk1 hS => ?_)
    obtain ⟨ws_193, ty_194, hm_195, ht_197, hP1, hK1, hD1, hx_196⟩ := hB
    rw [ht] at hP1
    have hK := va_K.moved hvm.symm hK1
    have hD := hD1.weaken (fun _ _ _ h => hFc _ h)
    generalize H1 = H at hP1 hS ⊢
    have hP := hP1
    obtain ⟨g_199, e_198, h_200⟩ := hm_195.obj er_176
    obtain ⟨z_201, z_202, z_203, z_204, z_205, z_206, rfl⟩ := smX4 h_200
    obtain ⟨g_208, e_207, h_209⟩ := hm_195.obj et_177
    obtain ⟨z_210, z_211, z_212, z_213, rfl⟩ := smX6 h_209
    obtain ⟨f_215, e_214⟩ := hm_195.arrI e_182
    have u_216 := ht_197 _ _ u_183
    obtain ⟨f_218, e_217⟩ := hm_195.arrI e_188
    have u_219 := ht_197 _ _ u_189
    have hsm := hsm.tr (hm_195.mono (by decide))
    have htx := htx.tr ht_197
    obtain ⟨ts_220, te_221, cc_222, ra_223, rb_224, rc_225, rv_226, re_227, ya_228, h1_229, h2_230, h3_231, h4_232, er_233, et_234, ⟨k_235, c9_236, t_237, f_238, e_239, u_240⟩, ⟨k_241, c9_242, t_243, f_244, e_245, u_246⟩⟩ := id hx_196
    rcases w_192 with rfl | rfl
    · refine lv_if_eq (tgt := 84) hx hb dX4_readOne_77 (by decide) (fun c_247 => ?_) (fun c_247 => absurd (by decide) c_247)
      refine lv_iconst (v := 0) hx hb dX4_readOne_84 (by decide) ?_
      exact W.zret (v := 0) hx hb hr rfl (fun t ht hW => ⟨⟨0, (), rfl, Or.inl rfl, ws_193, ty_194, hsm, htx, by rw [ht]; exact hP, va_K.moved hW.alike hK, hD, (⟨ts_220, te_221, cc_222, ra_223, rb_224, rc_225, rv_226, re_227, ya_228, by omega, by omega, by omega, by omega, er_233, et_234, ⟨k_235, c9_236, t_237, f_238, e_239, u_240⟩, ⟨k_241, c9_242, t_243, f_244, e_245, u_246⟩⟩ : RS ws_193 ty_194 rd krd tp ktp cd bb tl)⟩, hS.F ht⟩) hS.2.2 dX4_readOne_85
    refine lv_if_eq (tgt := 84) hx hb dX4_readOne_77 (by decide) (fun c_248 => absurd c_248 (by decide)) (fun c_248 => ?_)
    refine lv_iconst (v := 1) hx hb dX4_readOne_80 (by decide) ?_
    refine lv_goto (tgt := 85) hx hb dX4_readOne_81 (by decide) ?_
    exact W.zret (v := 1) hx hb hr rfl (fun t ht hW => ⟨⟨1, (), rfl, Or.inr rfl, ws_193, ty_194, hsm, htx, by rw [ht]; exact hP, va_K.moved hW.alike hK, hD, (⟨ts_220, te_221, cc_222, ra_223, rb_224, rc_225, rv_226, re_227, ya_228, by omega, by omega, by omega, by omega, er_233, et_234, ⟨k_235, c9_236, t_237, f_238, e_239, u_240⟩, ⟨k_241, c9_242, t_243, f_244, e_245, u_246⟩⟩ : RS ws_193 ty_194 rd krd tp ktp cd bb tl)⟩, hS.F ht⟩) hS.2.2 dX4_readOne_85
  refine lv_istore_n (lv' := [(2, .int 1), (0, .ref rd), (1, .int 3)]) hx hb dX4_readOne_9 rfl hl (by decide) rfl (fun ls hl => ?_)
  refine lv_iload_n hx hb dX4_readOne_10 rfl (lv_at hl 0 rfl) ?_
  refine lv_if_ne (tgt := 31) hx hb dX4_readOne_11 (by decide) (fun c_249 => ?_) (fun c_249 => absurd c_249 (by decide))
  refine lv_iload_n hx hb dX4_readOne_31 rfl (lv_at hl 2 rfl) ?_
  refine lv_bipush (v := 6) hx hb dX4_readOne_32 (by decide) ?_
  refine lv_icmp_lt (tgt := 50) hx hb dX4_readOne_34 (by decide) (fun c_250 => ?_) (fun c_250 => absurd (by decide) c_250)
  refine lv_aload_n hx hb dX4_readOne_50 rfl (lv_at hl 1 rfl) ?_
  refine va_get (D := D) (ci := 4) (v := .ref tp) (C := RX4) (T := TX4) (N := 8) hx hb hts hin4 hown hK hP krd e_35 rfl 0 (by decide) (hts (.fieldLink RX4 12 "HoneyHouse$RuleReader" "tape" "LHoneyHouse$Tape;") (List.mem_of_getElem? (i := 1) rfl)) (fun _ h9 => h9) rfl dX4_readOne_51 ?_
  have hFc := free_all hD hS hA
  refine va_callv (va_runV (As := []) (rest := []) ⟨hx, hb, hml, hown, hts⟩ (a_advance l D ws_30 ty_31 tp ktp tl te_2 ya_9 (nI ts_1) bb k_22 c9_23 t_24 f_41 H.size (by omega) (by omega) e_36 e_40 u_42) (cwV 0 hts gX4_readOne_X6_advance rfl rfl rfl (by decide +kernel) ⟨Nat.le_of_ble_eq_true rfl, Nat.le_of_ble_eq_true rfl⟩) ⟨fun a U g mk q => by obtain ⟨q0, q1, qP, qK, qD⟩ := q; exact ⟨q0, q1, qP, va_K.moved (u := U) (U := U.calling g mk a) (Vm.Alike.refl U.vm) qK, qD⟩, va_recv hK hP (ci := 6) (q0 := ktp) rfl e_36, fun U hU hW => ⟨rfl, by rw [hU], by rw [hU]; exact hP, va_K.moved hW.alike hK, hD.weaken (fun _ _ _ _ => trivial)⟩⟩ rfl rfl hl.1 rfl (lv_room (Nat.le_of_ble_eq_true rfl)) dX4_readOne_54 ⟨Nat.le_of_ble_eq_true rfl, Nat.le_of_ble_eq_true rfl⟩) hS (fun q _ h => hFc q h) hFc (fun u t H1 locs ht hvm w_252 hB hz1 hk1 hS => ?_)
  obtain ⟨ws_253, ty_254, hm_255, ht_257, hP1, hK1, hD1, hx_256⟩ := hB
  rw [ht] at hP1
  have hK := va_K.moved hvm.symm hK1
  have hD := hD1.weaken (fun _ _ _ h => hFc _ h)
  generalize H1 = H at hP1 hS ⊢
  have hP := hP1
  have e_258 := hm_255.objK e_35 (by decide)
  obtain ⟨g_260, e_259, h_261⟩ := hm_255.obj e_36
  obtain ⟨z_262, z_263, z_264, z_265, rfl⟩ := smX6 h_261
  obtain ⟨f_267, e_266⟩ := hm_255.arrI e_37
  have u_268 := ht_257 _ _ u_39
  obtain ⟨f_270, e_269⟩ := hm_255.arrI e_40
  have u_271 := ht_257 _ _ u_42
  have hsm := hsm.tr (hm_255.mono (by decide))
  have htx := htx.tr ht_257
  obtain ⟨k_272, s_273, e_274, h_275, h_276, h_277, e_278⟩ := hx_256
  refine lv_iload_n hx hb dX4_readOne_57 rfl (lv_at hl 0 rfl) ?_
  refine lv_if_ne (tgt := 86) hx hb dX4_readOne_58 (by decide) (fun c_279 => ?_) (fun c_279 => absurd c_279 (by decide))
  refine lv_aload_n hx hb dX4_readOne_86 rfl (lv_at hl 1 rfl) ?_
  refine lv_iload_n hx hb dX4_readOne_87 rfl (lv_at hl 2 rfl) ?_
  refine lv_iconst (v := 1) hx hb dX4_readOne_88 (by decide) ?_
  refine lv_iadd hx hb dX4_readOne_89 ?_
  refine tp_i (y := 4) (by decide) ?_
  have hFc := free_all hD hS hA
  refine va_calli (va_runV (As := [.int 4]) (rest := []) ⟨hx, hb, hml, hown, hts⟩ (r_readOne4 l D ws_253 ty_254 adK adV fo rd krd tp ktp cd bb tl  H.size (⟨s_273, e_274, cc_3, ra_4, rb_5, rc_6, rv_7, re_8, nI k_272, by omega, by omega, by omega, by omega, e_258, e_278, ⟨k_16, c9_17, t_18, f_267, e_266, u_268⟩, ⟨k_22, c9_23, t_24, f_270, e_269, u_271⟩⟩ : RS ws_253 ty_254 rd krd tp ktp cd bb tl)) (cwV 1 hts gX4_readOne_X4_readOne rfl rfl rfl (by decide +kernel) ⟨Nat.le_of_ble_eq_true rfl, Nat.le_of_ble_eq_true rfl⟩) ⟨fun a U g mk q => by obtain ⟨q0, q1, qP, qK, qD, qS⟩ := q; exact ⟨q0, q1, qP, va_K.moved (u := U) (U := U.calling g mk a) (Vm.Alike.refl U.vm) qK, qD, SZ.same rfl rfl qS⟩, va_recv hK hP (ci := 4) (q0 := krd) rfl e_258, fun U hU hW => ⟨rfl, by rw [hU], by rw [hU]; exact hP, va_K.moved hW.alike hK, hD.weaken (fun _ _ _ _ => trivial), hsz9.go hS hW hU hFc⟩⟩ rfl rfl hl.1 rfl (lv_room (Nat.le_of_ble_eq_true rfl)) dX4_readOne_90 ⟨Nat.le_of_ble_eq_true rfl, Nat.le_of_ble_eq_true rfl⟩) hS (fun q _ h => hFc q h) hFc (fun r_280 u t H1 locs ht hvm w_281 hB hz1 hk1 hS => ?_)
  obtain ⟨ws_282, ty_283, hm_284, ht_286, hP1, hK1, hD1, hx_285⟩ := hB
  rw [ht] at hP1
  have hK := va_K.moved hvm.symm hK1
  have hD := hD1.weaken (fun _ _ _ h => hFc _ h)
  generalize H1 = H at hP1 hS ⊢
  have hP := hP1
  obtain ⟨g_288, e_287, h_289⟩ := hm_284.obj e_258
  obtain ⟨z_290, z_291, z_292, z_293, z_294, z_295, rfl⟩ := smX4 h_289
  obtain ⟨g_297, e_296, h_298⟩ := hm_284.obj e_278
  obtain ⟨z_299, z_300, z_301, z_302, rfl⟩ := smX6 h_298
  obtain ⟨f_304, e_303⟩ := hm_284.arrI e_266
  have u_305 := ht_286 _ _ u_268
  obtain ⟨f_307, e_306⟩ := hm_284.arrI e_269
  have u_308 := ht_286 _ _ u_271
  have hsm := hsm.tr (hm_284.mono (by decide))
  have htx := htx.tr ht_286
  obtain ⟨ts_309, te_310, cc_311, ra_312, rb_313, rc_314, rv_315, re_316, ya_317, h1_318, h2_319, h3_320, h4_321, er_322, et_323, ⟨k_324, c9_325, t_326, f_327, e_328, u_329⟩, ⟨k_330, c9_331, t_332, f_333, e_334, u_335⟩⟩ := id hx_285
  refine lv_istore_n (lv' := [(3, .int r_280), (2, .int 1), (0, .ref rd), (1, .int 3)]) hx hb dX4_readOne_93 rfl hl (by decide) rfl (fun ls hl => ?_)
  refine lv_aload_n hx hb dX4_readOne_94 rfl (lv_at hl 2 rfl) ?_
  refine lv_iconst (v := (-1)) hx hb dX4_readOne_95 (by decide) ?_
  have hFc := free_all hD hS hA
  refine va_callv (va_runV (As := [.int (-1)]) (rest := []) ⟨hx, hb, hml, hown, hts⟩ (r_addCode l D ws_282 ty_283 adK adV fo rd krd tp ktp cd bb tl (-1) H.size (⟨ts_309, te_310, cc_311, ra_312, rb_313, rc_314, rv_315, re_316, ya_317, by omega, by omega, by omega, by omega, er_322, et_323, ⟨k_324, c9_325, t_326, f_327, e_328, u_329⟩, ⟨k_330, c9_331, t_332, f_333, e_334, u_335⟩⟩ : RS ws_282 ty_283 rd krd tp ktp cd bb tl)) (cwV 1 hts gX4_readOne_X4_addCode rfl rfl rfl (by decide +kernel) ⟨Nat.le_of_ble_eq_true rfl, Nat.le_of_ble_eq_true rfl⟩) ⟨fun a U g mk q => by obtain ⟨q0, q1, qP, qK, qD, qS⟩ := q; exact ⟨q0, q1, qP, va_K.moved (u := U) (U := U.calling g mk a) (Vm.Alike.refl U.vm) qK, qD, SZ.same rfl rfl qS⟩, va_recv hK hP (ci := 4) (q0 := krd) rfl er_322, fun U hU hW => ⟨rfl, by rw [hU], by rw [hU]; exact hP, va_K.moved hW.alike hK, hD.weaken (fun _ _ _ _ => trivial), hsz9.go hS hW hU hFc⟩⟩ rfl rfl hl.1 rfl (lv_room (Nat.le_of_ble_eq_true rfl)) dX4_readOne_96 ⟨Nat.le_of_ble_eq_true rfl, Nat.le_of_ble_eq_true rfl⟩) hS (fun q _ h => hFc q h) hFc (fun u t H1 locs ht hvm w_337 hB hz1 hk1 hS => ?_)
  obtain ⟨ws_338, ty_339, hm_340, ht_342, hP1, hK1, hD1, hx_341⟩ := hB
  rw [ht] at hP1
  have hK := va_K.moved hvm.symm hK1
  have hD := hD1.weaken (fun _ _ _ h => hFc _ h)
  generalize H1 = H at hP1 hS ⊢
  have hP := hP1
  obtain ⟨g_344, e_343, h_345⟩ := hm_340.obj er_322
  obtain ⟨z_346, z_347, z_348, z_349, z_350, z_351, rfl⟩ := smX4 h_345
  obtain ⟨g_353, e_352, h_354⟩ := hm_340.obj et_323
  obtain ⟨z_355, z_356, z_357, z_358, rfl⟩ := smX6 h_354
  obtain ⟨f_360, e_359⟩ := hm_340.arrI e_328
  have u_361 := ht_342 _ _ u_329
  obtain ⟨f_363, e_362⟩ := hm_340.arrI e_334
  have u_364 := ht_342 _ _ u_335
  have hsm := hsm.tr (hm_340.mono (by decide))
  have htx := htx.tr ht_342
  obtain ⟨ts_365, te_366, cc_367, ra_368, rb_369, rc_370, rv_371, re_372, ya_373, h1_374, h2_375, h3_376, h4_377, er_378, et_379, ⟨k_380, c9_381, t_382, f_383, e_384, u_385⟩, ⟨k_386, c9_387, t_388, f_389, e_390, u_391⟩⟩ := id hx_341
  refine lv_iload_n hx hb dX4_readOne_99 rfl (lv_at hl 0 rfl) ?_
  exact W.zret (v := r_280) hx hb hr (by rcases w_281 with h9 | h9 <;> rw [h9] <;> rfl) (fun t ht hW => ⟨⟨r_280, (), rfl, w_281, ws_338, ty_339, hsm, htx, by rw [ht]; exact hP, va_K.moved hW.alike hK, hD, (⟨ts_365, te_366, cc_367, ra_368, rb_369, rc_370, rv_371, re_372, ya_373, by omega, by omega, by omega, by omega, er_378, et_379, ⟨k_380, c9_381, t_382, f_383, e_384, u_385⟩, ⟨k_386, c9_387, t_388, f_389, e_390, u_391⟩⟩ : RS ws_338 ty_339 rd krd tp ktp cd bb tl)⟩, hS.F ht⟩) hS.2.2 dX4_readOne_100
set_option maxHeartbeats 4000000 in
set_option maxRecDepth 100000 in
theorem r_readEither3 (l : Launch) (D : va_G) (ws : va_W) (tys : List (ClassId × FieldType)) (adK adV : Nat → Nat) (fo : Option Nat) (rd krd tp ktp cd bb tl : Nat)  (sz : Nat) (R0 : RS ws tys rd krd tp ktp cd bb tl)  : Met l yX4_readEither wsX4_readEither ({ frames := 14, cells := 0, slots := 0, locals := 316 }) (va_Pc [.ref rd, .int 3] (fun U => U.heap.size = sz ∧ va_P D vwCl ws U.heap ∧ va_K D vwCl tys U ∧ va_D (fun _ => True) ws ∧ SZ adK adV fo (va_A ws sz) U U.heap)) (va_Qi (fun (r : Int32) (_ : Unit) => r = 0 ∨ r = 1) (fun (_ : Unit) (t : State) => ∃ (ws' : va_W) (tys' : List (ClassId × FieldType)), sm [4, 6] ws ws' ∧ tyx tys tys' ∧ va_P D vwCl ws' t.heap ∧ va_K D vwCl tys' t ∧ va_D (va_A ws sz) ws' ∧ RS ws' tys' rd krd tp ktp cd bb tl) (va_A ws sz)) 0 0 (va_A ws sz) := by
  refine Met.ofW (cc := cX4_readEither) (maxL := 6) (ret := (some .boolean)) (by decide) rfl ?_
  intro p e s m args below meth c s₁ B hml hv
  obtain ⟨rfl, hsz, hP, hK, hD0, hsz9⟩ := hv
  have hx := B.exec
  have hb := B.bytes
  have hr := B.returns
  have hts := atoms_spec (ws := wsX4_readEither) B.pre
  have hown : s.vm.findClass RX4 = some m.cls := findClass_of_methodNamed B.named
  have hlocks := B.notSynchronized
  subst hsz
  have hD := hD0.self (sz := s.heap.size)
  generalize hAe : va_A ws s.heap.size = A at hD hsz9 ⊢
  have hA : ∀ q : Nat, s.heap.size ≤ q → A q := fun q h => by rw [← hAe]; exact Or.inr h
  have hS : va_S A s.heap s.heap [] := va_S.rf
  have hsm : sm [4, 6] ws ws := sm.rf ws
  have htx : tyx tys tys := tyx.rf tys
  have hin4 : ∀ w ∈ u_ws RX4 TX4 8, w ∈ wsX4_readEither := (fun _ h9 => List.mem_cons_of_mem _ (List.mem_append_left _ ((List.mem_append_right _ h9))))
  have hl := lv_entry ([.ref rd, .int 3]) (n := 6) (Nat.le_of_ble_eq_true rfl)
  rw [lg_entry_eq]
  generalize (lg_sl ([.ref rd, .int 3]) ++ List.replicate (6 - (lg_sl ([.ref rd, .int 3])).length) Slot.unset).toArray = ls at hl ⊢
  have hl : lv_has ls 6 [(0, .ref rd), (1, .int 3)] := hl
  obtain ⟨ts_1, te_2, cc_3, ra_4, rb_5, rc_6, rv_7, re_8, ya_9, h1_10, h2_11, h3_12, h4_13, er_14, et_15, ⟨k_16, c9_17, t_18, f_19, e_20, u_21⟩, ⟨k_22, c9_23, t_24, f_25, e_26, u_27⟩⟩ := id R0
  refine lv_aload_n hx hb dX4_readEither_0 rfl (lv_at hl 0 rfl) ?_
  refine lv_iload_n hx hb dX4_readEither_1 rfl (lv_at hl 1 rfl) ?_
  have hFc := free_all hD hS hA
  refine va_calli (va_runV (As := [.int 3]) (rest := []) ⟨hx, hb, hml, hown, hts⟩ (r_readOne3 l D ws tys adK adV fo rd krd tp ktp cd bb tl  s.heap.size (⟨ts_1, te_2, cc_3, ra_4, rb_5, rc_6, rv_7, re_8, ya_9, by omega, by omega, by omega, by omega, er_14, et_15, ⟨k_16, c9_17, t_18, f_19, e_20, u_21⟩, ⟨k_22, c9_23, t_24, f_25, e_26, u_27⟩⟩ : RS ws tys rd krd tp ktp cd bb tl)) (cwV 1 hts gX4_readEither_X4_readOne rfl rfl rfl (by decide +kernel) ⟨Nat.le_of_ble_eq_true rfl, Nat.le_of_ble_eq_true rfl⟩) ⟨fun a U g mk q => by obtain ⟨q0, q1, qP, qK, qD, qS⟩ := q; exact ⟨q0, q1, qP, va_K.moved (u := U) (U := U.calling g mk a) (Vm.Alike.refl U.vm) qK, qD, SZ.same rfl rfl qS⟩, va_recv hK hP (ci := 4) (q0 := krd) rfl er_14, fun U hU hW => ⟨rfl, by rw [hU], by rw [hU]; exact hP, va_K.moved hW.alike hK, hD.weaken (fun _ _ _ _ => trivial), hsz9.go hS hW hU hFc⟩⟩ rfl rfl hl.1 rfl (lv_room (Nat.le_of_ble_eq_true rfl)) dX4_readEither_2 ⟨Nat.le_of_ble_eq_true rfl, Nat.le_of_ble_eq_true rfl⟩) hS (fun q _ h => hFc q h) hFc (fun r_28 u t H1 locs ht hvm w_29 hB hz1 hk1 hS => ?_)
  obtain ⟨ws_30, ty_31, hm_32, ht_34, hP1, hK1, hD1, hx_33⟩ := hB
  rw [ht] at hP1
  have hK := va_K.moved hvm.symm hK1
  have hD := hD1.weaken (fun _ _ _ h => hFc _ h)
  generalize H1 = H at hP1 hS ⊢
  have hP := hP1
  obtain ⟨g_36, e_35, h_37⟩ := hm_32.obj er_14
  obtain ⟨z_38, z_39, z_40, z_41, z_42, z_43, rfl⟩ := smX4 h_37
  obtain ⟨g_45, e_44, h_46⟩ := hm_32.obj et_15
  obtain ⟨z_47, z_48, z_49, z_50, rfl⟩ := smX6 h_46
  obtain ⟨f_52, e_51⟩ := hm_32.arrI e_20
  have u_53 := ht_34 _ _ u_21
  obtain ⟨f_55, e_54⟩ := hm_32.arrI e_26
  have u_56 := ht_34 _ _ u_27
  have hsm := hsm.tr (hm_32.mono (by decide))
  have htx := htx.tr ht_34
  obtain ⟨ts_57, te_58, cc_59, ra_60, rb_61, rc_62, rv_63, re_64, ya_65, h1_66, h2_67, h3_68, h4_69, er_70, et_71, ⟨k_72, c9_73, t_74, f_75, e_76, u_77⟩, ⟨k_78, c9_79, t_80, f_81, e_82, u_83⟩⟩ := id hx_33
  refine lv_istore_n (lv' := [(2, .int r_28), (0, .ref rd), (1, .int 3)]) hx hb dX4_readEither_5 rfl hl (by decide) rfl (fun ls hl => ?_)
  refine lv_iconst (v := 0) hx hb dX4_readEither_6 (by decide) ?_
  refine lv_istore_n (lv' := [(3, .int 0), (2, .int r_28), (0, .ref rd), (1, .int 3)]) hx hb dX4_readEither_7 rfl hl (by decide) rfl (fun ls hl => ?_)
  refine lv_iconst (v := 0) hx hb dX4_readEither_8 (by decide) ?_
  refine lv_istore (lv' := [(4, .int 0), (3, .int 0), (2, .int r_28), (0, .ref rd), (1, .int 3)]) hx hb dX4_readEither_9 hl (by decide) rfl (fun ls hl => ?_)
  refine lp_V (nL := 6) (σ := Nat × Int32 × Int32) (lv := fun x9 => [(4, .int (nI x9.1)), (2, .int x9.2.1), (3, .int x9.2.2), (1, .int 3), (0, .ref rd)]) (μ := fun x9 => 400 - x9.1) (J := fun x9 ws9 => sm [4, 6] ws_30 ws9 ∧ (RS ws9 ty_31 rd krd tp ktp cd bb tl) ∧ (x9.1 ≤ 400) ∧ (x9.2.1 = 0 ∨ x9.2.1 = 1) ∧ (x9.2.2 = 0 ∨ x9.2.2 = 1)) (fun x9 ws_91 H locs ls hj hP hD hS hl ih_84 => ?_) (0, r_28, 0) ws_30 _ _ ls ⟨sm.rf _, (⟨ts_57, te_58, cc_59, ra_60, rb_61, rc_62, rv_63, re_64, ya_65, by omega, by omega, by omega, by omega, er_70, et_71, ⟨k_72, c9_73, t_74, f_75, e_76, u_77⟩, ⟨k_78, c9_79, t_80, f_81, e_82, u_83⟩⟩ : RS ws_30 ty_31 rd krd tp ktp cd bb tl), (show 0 ≤ 400 from by omega), (show r_28 = 0 ∨ r_28 = 1 from w_29), (show 0 = 0 ∨ 0 = 1 from Or.inl rfl)⟩ hP hD hS (lv_sub hl [0, 2, 1, 4, 3] rfl)
  obtain ⟨i_85, x_86, y_87⟩ := x9
  have hj : sm [4, 6] ws_30 ws_91 ∧ (RS ws_91 ty_31 rd krd tp ktp cd bb tl) ∧ (i_85 ≤ 400) ∧ (x_86 = 0 ∨ x_86 = 1) ∧ (y_87 = 0 ∨ y_87 = 1) := hj
  obtain ⟨hm_92, hR_94, hi_88, hbx_89, hby_90⟩ := hj
  obtain ⟨g_96, e_95, h_97⟩ := hm_92.obj er_70
  obtain ⟨z_98, z_99, z_100, z_101, z_102, z_103, rfl⟩ := smX4 h_97
  obtain ⟨g_105, e_104, h_106⟩ := hm_92.obj et_71
  obtain ⟨z_107, z_108, z_109, z_110, rfl⟩ := smX6 h_106
  obtain ⟨f_112, e_111⟩ := hm_92.arrI e_76
  obtain ⟨f_114, e_113⟩ := hm_92.arrI e_82
  have hsm := hsm.tr (hm_92.mono (by decide))
  obtain ⟨ts_115, te_116, cc_117, ra_118, rb_119, rc_120, rv_121, re_122, ya_123, h1_124, h2_125, h3_126, h4_127, er_128, et_129, ⟨k_130, c9_131, t_132, f_133, e_134, u_135⟩, ⟨k_136, c9_137, t_138, f_139, e_140, u_141⟩⟩ := id hR_94
  have hlp_93 := hm_92
  have hl : lv_has ls 6 [(4, .int (nI i_85)), (2, .int x_86), (3, .int y_87), (1, .int 3), (0, .ref rd)] := hl
  refine lv_iload hx hb dX4_readEither_11 (lv_at hl 0 rfl) ?_
  refine lv_sipush (v := 400) hx hb dX4_readEither_13 (by decide) ?_
  refine lv_icmp_ge (tgt := 101) hx hb dX4_readEither_16 (by decide) (fun c_142 => ?_) (fun c_142 => ?_)
  · have d_143 := n_le (a := 400) (b := i_85) (by omega) (by omega) c_142
    refine lv_iload_n hx hb dX4_readEither_101 rfl (lv_at hl 2 rfl) ?_
    refine lv_if_eq (tgt := 111) hx hb dX4_readEither_102 (by decide) (fun c_144 => ?_) (fun c_144 => ?_)
    · refine lv_iload_n hx hb dX4_readEither_111 rfl (lv_at hl 1 rfl) ?_
      exact W.zret (v := x_86) hx hb hr (by rcases hbx_89 with h9 | h9 <;> rw [h9] <;> rfl) (fun t ht hW => ⟨⟨x_86, (), rfl, hbx_89, ws_91, ty_31, hsm, htx, by rw [ht]; exact hP, va_K.moved hW.alike hK, hD, (⟨ts_115, te_116, cc_117, ra_118, rb_119, rc_120, rv_121, re_122, ya_123, by omega, by omega, by omega, by omega, er_128, et_129, ⟨k_130, c9_131, t_132, f_133, e_134, u_135⟩, ⟨k_136, c9_137, t_138, f_139, e_140, u_141⟩⟩ : RS ws_91 ty_31 rd krd tp ktp cd bb tl)⟩, hS.F ht⟩) hS.2.2 dX4_readEither_112
    refine lv_aload_n hx hb dX4_readEither_105 rfl (lv_at hl 4 rfl) ?_
    refine lv_bipush (v := (-3)) hx hb dX4_readEither_106 (by decide) ?_
    have hFc := free_all hD hS hA
    refine va_callv (va_runV (As := [.int (-3)]) (rest := []) ⟨hx, hb, hml, hown, hts⟩ (r_addCode l D ws_91 ty_31 adK adV fo rd krd tp ktp cd bb tl (-3) H.size (⟨ts_115, te_116, cc_117, ra_118, rb_119, rc_120, rv_121, re_122, ya_123, by omega, by omega, by omega, by omega, er_128, et_129, ⟨k_130, c9_131, t_132, f_133, e_134, u_135⟩, ⟨k_136, c9_137, t_138, f_139, e_140, u_141⟩⟩ : RS ws_91 ty_31 rd krd tp ktp cd bb tl)) (cwV 1 hts gX4_readEither_X4_addCode rfl rfl rfl (by decide +kernel) ⟨Nat.le_of_ble_eq_true rfl, Nat.le_of_ble_eq_true rfl⟩) ⟨fun a U g mk q => by obtain ⟨q0, q1, qP, qK, qD, qS⟩ := q; exact ⟨q0, q1, qP, va_K.moved (u := U) (U := U.calling g mk a) (Vm.Alike.refl U.vm) qK, qD, SZ.same rfl rfl qS⟩, va_recv hK hP (ci := 4) (q0 := krd) rfl er_128, fun U hU hW => ⟨rfl, by rw [hU], by rw [hU]; exact hP, va_K.moved hW.alike hK, hD.weaken (fun _ _ _ _ => trivial), hsz9.go hS hW hU hFc⟩⟩ rfl rfl hl.1 rfl (lv_room (Nat.le_of_ble_eq_true rfl)) dX4_readEither_108 ⟨Nat.le_of_ble_eq_true rfl, Nat.le_of_ble_eq_true rfl⟩) hS (fun q _ h => hFc q h) hFc (fun u t H1 locs ht hvm w_146 hB hz1 hk1 hS => ?_)
    obtain ⟨ws_147, ty_148, hm_149, ht_151, hP1, hK1, hD1, hx_150⟩ := hB
    rw [ht] at hP1
    have hK := va_K.moved hvm.symm hK1
    have hD := hD1.weaken (fun _ _ _ h => hFc _ h)
    generalize H1 = H at hP1 hS ⊢
    have hP := hP1
    obtain ⟨g_153, e_152, h_154⟩ := hm_149.obj er_128
    obtain ⟨z_155, z_156, z_157, z_158, z_159, z_160, rfl⟩ := smX4 h_154
    obtain ⟨g_162, e_161, h_163⟩ := hm_149.obj et_129
    obtain ⟨z_164, z_165, z_166, z_167, rfl⟩ := smX6 h_163
    obtain ⟨f_169, e_168⟩ := hm_149.arrI e_134
    have u_170 := ht_151 _ _ u_135
    obtain ⟨f_172, e_171⟩ := hm_149.arrI e_140
    have u_173 := ht_151 _ _ u_141
    have hsm := hsm.tr (hm_149.mono (by decide))
    have hlp_93 := hlp_93.tr (hm_149.mono (by decide))
    have htx := htx.tr ht_151
    obtain ⟨ts_174, te_175, cc_176, ra_177, rb_178, rc_179, rv_180, re_181, ya_182, h1_183, h2_184, h3_185, h4_186, er_187, et_188, ⟨k_189, c9_190, t_191, f_192, e_193, u_194⟩, ⟨k_195, c9_196, t_197, f_198, e_199, u_200⟩⟩ := id hx_150
    refine lv_iload_n hx hb dX4_readEither_111 rfl (lv_at hl 1 rfl) ?_
    exact W.zret (v := x_86) hx hb hr (by rcases hbx_89 with h9 | h9 <;> rw [h9] <;> rfl) (fun t ht hW => ⟨⟨x_86, (), rfl, hbx_89, ws_147, ty_148, hsm, htx, by rw [ht]; exact hP, va_K.moved hW.alike hK, hD, (⟨ts_174, te_175, cc_176, ra_177, rb_178, rc_179, rv_180, re_181, ya_182, by omega, by omega, by omega, by omega, er_187, et_188, ⟨k_189, c9_190, t_191, f_192, e_193, u_194⟩, ⟨k_195, c9_196, t_197, f_198, e_199, u_200⟩⟩ : RS ws_147 ty_148 rd krd tp ktp cd bb tl)⟩, hS.F ht⟩) hS.2.2 dX4_readEither_112
  have d_201 := n_nle (a := 400) (b := i_85) (by omega) (by omega) c_142
  refine lv_iload_n hx hb dX4_readEither_19 rfl (lv_at hl 1 rfl) ?_
  refine lv_if_eq (tgt := 101) hx hb dX4_readEither_20 (by decide) (fun c_202 => ?_) (fun c_202 => ?_)
  · refine lv_iload_n hx hb dX4_readEither_101 rfl (lv_at hl 2 rfl) ?_
    refine lv_if_eq (tgt := 111) hx hb dX4_readEither_102 (by decide) (fun c_203 => ?_) (fun c_203 => ?_)
    · refine lv_iload_n hx hb dX4_readEither_111 rfl (lv_at hl 1 rfl) ?_
      exact W.zret (v := x_86) hx hb hr (by rcases hbx_89 with h9 | h9 <;> rw [h9] <;> rfl) (fun t ht hW => ⟨⟨x_86, (), rfl, hbx_89, ws_91, ty_31, hsm, htx, by rw [ht]; exact hP, va_K.moved hW.alike hK, hD, (⟨ts_115, te_116, cc_117, ra_118, rb_119, rc_120, rv_121, re_122, ya_123, by omega, by omega, by omega, by omega, er_128, et_129, ⟨k_130, c9_131, t_132, f_133, e_134, u_135⟩, ⟨k_136, c9_137, t_138, f_139, e_140, u_141⟩⟩ : RS ws_91 ty_31 rd krd tp ktp cd bb tl)⟩, hS.F ht⟩) hS.2.2 dX4_readEither_112
    refine lv_aload_n hx hb dX4_readEither_105 rfl (lv_at hl 4 rfl) ?_
    refine lv_bipush (v := (-3)) hx hb dX4_readEither_106 (by decide) ?_
    have hFc := free_all hD hS hA
    refine va_callv (va_runV (As := [.int (-3)]) (rest := []) ⟨hx, hb, hml, hown, hts⟩ (r_addCode l D ws_91 ty_31 adK adV fo rd krd tp ktp cd bb tl (-3) H.size (⟨ts_115, te_116, cc_117, ra_118, rb_119, rc_120, rv_121, re_122, ya_123, by omega, by omega, by omega, by omega, er_128, et_129, ⟨k_130, c9_131, t_132, f_133, e_134, u_135⟩, ⟨k_136, c9_137, t_138, f_139, e_140, u_141⟩⟩ : RS ws_91 ty_31 rd krd tp ktp cd bb tl)) (cwV 1 hts gX4_readEither_X4_addCode rfl rfl rfl (by decide +kernel) ⟨Nat.le_of_ble_eq_true rfl, Nat.le_of_ble_eq_true rfl⟩) ⟨fun a U g mk q => by obtain ⟨q0, q1, qP, qK, qD, qS⟩ := q; exact ⟨q0, q1, qP, va_K.moved (u := U) (U := U.calling g mk a) (Vm.Alike.refl U.vm) qK, qD, SZ.same rfl rfl qS⟩, va_recv hK hP (ci := 4) (q0 := krd) rfl er_128, fun U hU hW => ⟨rfl, by rw [hU], by rw [hU]; exact hP, va_K.moved hW.alike hK, hD.weaken (fun _ _ _ _ => trivial), hsz9.go hS hW hU hFc⟩⟩ rfl rfl hl.1 rfl (lv_room (Nat.le_of_ble_eq_true rfl)) dX4_readEither_108 ⟨Nat.le_of_ble_eq_true rfl, Nat.le_of_ble_eq_true rfl⟩) hS (fun q _ h => hFc q h) hFc (fun u t H1 locs ht hvm w_205 hB hz1 hk1 hS => ?_)
    obtain ⟨ws_206, ty_207, hm_208, ht_210, hP1, hK1, hD1, hx_209⟩ := hB
    rw [ht] at hP1
    have hK := va_K.moved hvm.symm hK1
    have hD := hD1.weaken (fun _ _ _ h => hFc _ h)
    generalize H1 = H at hP1 hS ⊢
    have hP := hP1
    obtain ⟨g_212, e_211, h_213⟩ := hm_208.obj er_128
    obtain ⟨z_214, z_215, z_216, z_217, z_218, z_219, rfl⟩ := smX4 h_213
    obtain ⟨g_221, e_220, h_222⟩ := hm_208.obj et_129
    obtain ⟨z_223, z_224, z_225, z_226, rfl⟩ := smX6 h_222
    obtain ⟨f_228, e_227⟩ := hm_208.arrI e_134
    have u_229 := ht_210 _ _ u_135
    obtain ⟨f_231, e_230⟩ := hm_208.arrI e_140
    have u_232 := ht_210 _ _ u_141
    have hsm := hsm.tr (hm_208.mono (by decide))
    have hlp_93 := hlp_93.tr (hm_208.mono (by decide))
    have htx := htx.tr ht_210
    obtain ⟨ts_233, te_234, cc_235, ra_236, rb_237, rc_238, rv_239, re_240, ya_241, h1_242, h2_243, h3_244, h4_245, er_246, et_247, ⟨k_248, c9_249, t_250, f_251, e_252, u_253⟩, ⟨k_254, c9_255, t_256, f_257, e_258, u_259⟩⟩ := id hx_209
    refine lv_iload_n hx hb dX4_readEither_111 rfl (lv_at hl 1 rfl) ?_
    exact W.zret (v := x_86) hx hb hr (by rcases hbx_89 with h9 | h9 <;> rw [h9] <;> rfl) (fun t ht hW => ⟨⟨x_86, (), rfl, hbx_89, ws_206, ty_207, hsm, htx, by rw [ht]; exact hP, va_K.moved hW.alike hK, hD, (⟨ts_233, te_234, cc_235, ra_236, rb_237, rc_238, rv_239, re_240, ya_241, by omega, by omega, by omega, by omega, er_246, et_247, ⟨k_248, c9_249, t_250, f_251, e_252, u_253⟩, ⟨k_254, c9_255, t_256, f_257, e_258, u_259⟩⟩ : RS ws_206 ty_207 rd krd tp ktp cd bb tl)⟩, hS.F ht⟩) hS.2.2 dX4_readEither_112
  refine lv_aload_n hx hb dX4_readEither_23 rfl (lv_at hl 4 rfl) ?_
  have hFc := free_all hD hS hA
  refine va_calli (va_runV (As := []) (rest := []) ⟨hx, hb, hml, hown, hts⟩ (r_isAndOr l D ws_91 ty_31 adK adV fo rd krd tp ktp cd bb tl  H.size (⟨ts_115, te_116, cc_117, ra_118, rb_119, rc_120, rv_121, re_122, ya_123, by omega, by omega, by omega, by omega, er_128, et_129, ⟨k_130, c9_131, t_132, f_133, e_134, u_135⟩, ⟨k_136, c9_137, t_138, f_139, e_140, u_141⟩⟩ : RS ws_91 ty_31 rd krd tp ktp cd bb tl)) (cwV 0 hts gX4_readEither_X4_isAndOr rfl rfl rfl (by decide +kernel) ⟨Nat.le_of_ble_eq_true rfl, Nat.le_of_ble_eq_true rfl⟩) ⟨fun a U g mk q => by obtain ⟨q0, q1, qP, qK, qD, qS⟩ := q; exact ⟨q0, q1, qP, va_K.moved (u := U) (U := U.calling g mk a) (Vm.Alike.refl U.vm) qK, qD, SZ.same rfl rfl qS⟩, va_recv hK hP (ci := 4) (q0 := krd) rfl er_128, fun U hU hW => ⟨rfl, by rw [hU], by rw [hU]; exact hP, va_K.moved hW.alike hK, hD.weaken (fun _ _ _ _ => trivial), hsz9.go hS hW hU hFc⟩⟩ rfl rfl hl.1 rfl (lv_room (Nat.le_of_ble_eq_true rfl)) dX4_readEither_24 ⟨Nat.le_of_ble_eq_true rfl, Nat.le_of_ble_eq_true rfl⟩) hS (fun q _ h => hFc q h) hFc (fun r_260 u t H1 locs ht hvm w_261 hB hz1 hk1 hS => ?_)
  obtain ⟨ws_262, ty_263, hm_264, ht_266, hP1, hK1, hD1, hx_265⟩ := hB
  rw [ht] at hP1
  have hK := va_K.moved hvm.symm hK1
  have hD := hD1.weaken (fun _ _ _ h => hFc _ h)
  generalize H1 = H at hP1 hS ⊢
  have hP := hP1
  have e_267 := hm_264.objK er_128 (by decide)
  have e_268 := hm_264.objK et_129 (by decide)
  obtain ⟨f_270, e_269⟩ := hm_264.arrI e_134
  have u_271 := ht_266 _ _ u_135
  obtain ⟨f_273, e_272⟩ := hm_264.arrI e_140
  have u_274 := ht_266 _ _ u_141
  have hsm := hsm.tr (hm_264.mono (by decide))
  have hlp_93 := hlp_93.tr (hm_264.mono (by decide))
  have htx := htx.tr ht_266
  rcases w_261 with rfl | rfl
  · refine lv_if_eq (tgt := 101) hx hb dX4_readEither_27 (by decide) (fun c_275 => ?_) (fun c_275 => absurd (by decide) c_275)
    refine lv_iload_n hx hb dX4_readEither_101 rfl (lv_at hl 2 rfl) ?_
    refine lv_if_eq (tgt := 111) hx hb dX4_readEither_102 (by decide) (fun c_276 => ?_) (fun c_276 => ?_)
    · refine lv_iload_n hx hb dX4_readEither_111 rfl (lv_at hl 1 rfl) ?_
      exact W.zret (v := x_86) hx hb hr (by rcases hbx_89 with h9 | h9 <;> rw [h9] <;> rfl) (fun t ht hW => ⟨⟨x_86, (), rfl, hbx_89, ws_262, ty_263, hsm, htx, by rw [ht]; exact hP, va_K.moved hW.alike hK, hD, (⟨ts_115, te_116, cc_117, ra_118, rb_119, rc_120, rv_121, re_122, ya_123, by omega, by omega, by omega, by omega, e_267, e_268, ⟨k_130, c9_131, t_132, f_270, e_269, u_271⟩, ⟨k_136, c9_137, t_138, f_273, e_272, u_274⟩⟩ : RS ws_262 ty_263 rd krd tp ktp cd bb tl)⟩, hS.F ht⟩) hS.2.2 dX4_readEither_112
    refine lv_aload_n hx hb dX4_readEither_105 rfl (lv_at hl 4 rfl) ?_
    refine lv_bipush (v := (-3)) hx hb dX4_readEither_106 (by decide) ?_
    have hFc := free_all hD hS hA
    refine va_callv (va_runV (As := [.int (-3)]) (rest := []) ⟨hx, hb, hml, hown, hts⟩ (r_addCode l D ws_262 ty_263 adK adV fo rd krd tp ktp cd bb tl (-3) H.size (⟨ts_115, te_116, cc_117, ra_118, rb_119, rc_120, rv_121, re_122, ya_123, by omega, by omega, by omega, by omega, e_267, e_268, ⟨k_130, c9_131, t_132, f_270, e_269, u_271⟩, ⟨k_136, c9_137, t_138, f_273, e_272, u_274⟩⟩ : RS ws_262 ty_263 rd krd tp ktp cd bb tl)) (cwV 1 hts gX4_readEither_X4_addCode rfl rfl rfl (by decide +kernel) ⟨Nat.le_of_ble_eq_true rfl, Nat.le_of_ble_eq_true rfl⟩) ⟨fun a U g mk q => by obtain ⟨q0, q1, qP, qK, qD, qS⟩ := q; exact ⟨q0, q1, qP, va_K.moved (u := U) (U := U.calling g mk a) (Vm.Alike.refl U.vm) qK, qD, SZ.same rfl rfl qS⟩, va_recv hK hP (ci := 4) (q0 := krd) rfl e_267, fun U hU hW => ⟨rfl, by rw [hU], by rw [hU]; exact hP, va_K.moved hW.alike hK, hD.weaken (fun _ _ _ _ => trivial), hsz9.go hS hW hU hFc⟩⟩ rfl rfl hl.1 rfl (lv_room (Nat.le_of_ble_eq_true rfl)) dX4_readEither_108 ⟨Nat.le_of_ble_eq_true rfl, Nat.le_of_ble_eq_true rfl⟩) hS (fun q _ h => hFc q h) hFc (fun u t H1 locs ht hvm w_278 hB hz1 hk1 hS => ?_)
    obtain ⟨ws_279, ty_280, hm_281, ht_283, hP1, hK1, hD1, hx_282⟩ := hB
    rw [ht] at hP1
    have hK := va_K.moved hvm.symm hK1
    have hD := hD1.weaken (fun _ _ _ h => hFc _ h)
    generalize H1 = H at hP1 hS ⊢
    have hP := hP1
    obtain ⟨g_285, e_284, h_286⟩ := hm_281.obj e_267
    obtain ⟨z_287, z_288, z_289, z_290, z_291, z_292, rfl⟩ := smX4 h_286
    obtain ⟨g_294, e_293, h_295⟩ := hm_281.obj e_268
    obtain ⟨z_296, z_297, z_298, z_299, rfl⟩ := smX6 h_295
    obtain ⟨f_301, e_300⟩ := hm_281.arrI e_269
    have u_302 := ht_283 _ _ u_271
    obtain ⟨f_304, e_303⟩ := hm_281.arrI e_272
    have u_305 := ht_283 _ _ u_274
    have hsm := hsm.tr (hm_281.mono (by decide))
    have hlp_93 := hlp_93.tr (hm_281.mono (by decide))
    have htx := htx.tr ht_283
    obtain ⟨ts_306, te_307, cc_308, ra_309, rb_310, rc_311, rv_312, re_313, ya_314, h1_315, h2_316, h3_317, h4_318, er_319, et_320, ⟨k_321, c9_322, t_323, f_324, e_325, u_326⟩, ⟨k_327, c9_328, t_329, f_330, e_331, u_332⟩⟩ := id hx_282
    refine lv_iload_n hx hb dX4_readEither_111 rfl (lv_at hl 1 rfl) ?_
    exact W.zret (v := x_86) hx hb hr (by rcases hbx_89 with h9 | h9 <;> rw [h9] <;> rfl) (fun t ht hW => ⟨⟨x_86, (), rfl, hbx_89, ws_279, ty_280, hsm, htx, by rw [ht]; exact hP, va_K.moved hW.alike hK, hD, (⟨ts_306, te_307, cc_308, ra_309, rb_310, rc_311, rv_312, re_313, ya_314, by omega, by omega, by omega, by omega, er_319, et_320, ⟨k_321, c9_322, t_323, f_324, e_325, u_326⟩, ⟨k_327, c9_328, t_329, f_330, e_331, u_332⟩⟩ : RS ws_279 ty_280 rd krd tp ktp cd bb tl)⟩, hS.F ht⟩) hS.2.2 dX4_readEither_112
  refine lv_if_eq (tgt := 101) hx hb dX4_readEither_27 (by decide) (fun c_333 => absurd c_333 (by decide)) (fun c_333 => ?_)
  refine lv_aload_n hx hb dX4_readEither_30 rfl (lv_at hl 4 rfl) ?_
  refine va_get (D := D) (ci := 4) (v := .ref tp) (C := RX4) (T := TX4) (N := 8) hx hb hts hin4 hown hK hP krd e_267 rfl 0 (by decide) (hts (.fieldLink RX4 12 "HoneyHouse$RuleReader" "tape" "LHoneyHouse$Tape;") (List.mem_of_getElem? (i := 1) rfl)) (fun _ h9 => h9) rfl dX4_readEither_31 ?_
  refine va_ldcS hx hb hown hsz9.2.2.2.2.2.1 dX4_readEither_34 ?_
  have hFc := free_all hD hS hA
  refine va_calli (va_runV (As := [.ref (adK 2)]) (rest := []) ⟨hx, hb, hml, hown, hts⟩ (a_isWord l D ws_262 ty_263 adK adV fo 2 tp ktp tl ya_123 (nI ts_115) (nI te_116) bb k_136 c9_137 t_138 f_273 H.size (by decide) e_268 e_272 u_274) (cwV 1 hts gX4_readEither_X6_isWord rfl rfl rfl (by decide +kernel) ⟨Nat.le_of_ble_eq_true rfl, Nat.le_of_ble_eq_true rfl⟩) ⟨fun a U g mk q => by obtain ⟨q0, q1, qP, qK, qD, qS⟩ := q; exact ⟨q0, q1, qP, va_K.moved (u := U) (U := U.calling g mk a) (Vm.Alike.refl U.vm) qK, qD, SZ.same rfl rfl qS⟩, va_recv hK hP (ci := 6) (q0 := ktp) rfl e_268, fun U hU hW => ⟨rfl, by rw [hU], by rw [hU]; exact hP, va_K.moved hW.alike hK, hD.weaken (fun _ _ _ _ => trivial), hsz9.go hS hW hU hFc⟩⟩ rfl rfl hl.1 rfl (lv_room (Nat.le_of_ble_eq_true rfl)) dX4_readEither_36 ⟨Nat.le_of_ble_eq_true rfl, Nat.le_of_ble_eq_true rfl⟩) hS (fun q _ h => hFc q h) hFc (fun r_334 u t H1 locs ht hvm w_335 hB hz1 hk1 hS => ?_)
  obtain ⟨ws_336, ty_337, hm_338, ht_340, hP1, hK1, hD1, hx_339⟩ := hB
  rw [ht] at hP1
  have hK := va_K.moved hvm.symm hK1
  have hD := hD1.weaken (fun _ _ _ h => hFc _ h)
  generalize H1 = H at hP1 hS ⊢
  have hP := hP1
  have e_341 := hm_338.objK e_267 (by decide)
  have e_342 := hm_338.objK e_268 (by decide)
  obtain ⟨f_344, e_343⟩ := hm_338.arrI e_269
  have u_345 := ht_340 _ _ u_271
  obtain ⟨f_347, e_346⟩ := hm_338.arrI e_272
  have u_348 := ht_340 _ _ u_274
  have hsm := hsm.tr (hm_338.mono (by decide))
  have hlp_93 := hlp_93.tr (hm_338.mono (by decide))
  have htx := htx.tr ht_340
  rcases w_335 with rfl | rfl
  · refine lv_istore (lv' := [(5, .int 0), (4, .int (nI i_85)), (2, .int x_86), (3, .int y_87), (1, .int 3), (0, .ref rd)]) hx hb dX4_readEither_39 hl (by decide) rfl (fun ls hl => ?_)
    refine lv_iload hx hb dX4_readEither_41 (lv_at hl 0 rfl) ?_
    refine lv_if_ne (tgt := 56) hx hb dX4_readEither_43 (by decide) (fun c_349 => absurd (by decide) c_349) (fun c_349 => ?_)
    refine lv_iload_n hx hb dX4_readEither_46 rfl (lv_at hl 3 rfl) ?_
    refine lv_if_eq (tgt := 56) hx hb dX4_readEither_47 (by decide) (fun c_350 => ?_) (fun c_350 => ?_)
    · refine lv_iload_n hx hb dX4_readEither_56 rfl (lv_at hl 3 rfl) ?_
      refine lv_if_ne (tgt := 65) hx hb dX4_readEither_57 (by decide) (fun c_351 => ?_) (fun c_351 => ?_)
      · refine lv_iconst (v := 1) hx hb dX4_readEither_65 (by decide) ?_
        refine lv_goto (tgt := 70) hx hb dX4_readEither_66 (by decide) ?_
        refine lv_istore_n (lv' := [(3, .int 1), (5, .int 0), (4, .int (nI i_85)), (2, .int x_86), (1, .int 3), (0, .ref rd)]) hx hb dX4_readEither_70 rfl hl (by decide) rfl (fun ls hl => ?_)
        refine lv_aload_n hx hb dX4_readEither_71 rfl (lv_at hl 5 rfl) ?_
        refine va_get (D := D) (ci := 4) (v := .ref tp) (C := RX4) (T := TX4) (N := 8) hx hb hts hin4 hown hK hP krd e_341 rfl 0 (by decide) (hts (.fieldLink RX4 12 "HoneyHouse$RuleReader" "tape" "LHoneyHouse$Tape;") (List.mem_of_getElem? (i := 1) rfl)) (fun _ h9 => h9) rfl dX4_readEither_72 ?_
        have hFc := free_all hD hS hA
        refine va_callv (va_runV (As := []) (rest := []) ⟨hx, hb, hml, hown, hts⟩ (a_advance l D ws_336 ty_337 tp ktp tl te_116 ya_123 (nI ts_115) bb k_136 c9_137 t_138 f_347 H.size (by omega) (by omega) e_342 e_346 u_348) (cwV 0 hts gX4_readEither_X6_advance rfl rfl rfl (by decide +kernel) ⟨Nat.le_of_ble_eq_true rfl, Nat.le_of_ble_eq_true rfl⟩) ⟨fun a U g mk q => by obtain ⟨q0, q1, qP, qK, qD⟩ := q; exact ⟨q0, q1, qP, va_K.moved (u := U) (U := U.calling g mk a) (Vm.Alike.refl U.vm) qK, qD⟩, va_recv hK hP (ci := 6) (q0 := ktp) rfl e_342, fun U hU hW => ⟨rfl, by rw [hU], by rw [hU]; exact hP, va_K.moved hW.alike hK, hD.weaken (fun _ _ _ _ => trivial)⟩⟩ rfl rfl hl.1 rfl (lv_room (Nat.le_of_ble_eq_true rfl)) dX4_readEither_75 ⟨Nat.le_of_ble_eq_true rfl, Nat.le_of_ble_eq_true rfl⟩) hS (fun q _ h => hFc q h) hFc (fun u t H1 locs ht hvm w_353 hB hz1 hk1 hS => ?_)
        obtain ⟨ws_354, ty_355, hm_356, ht_358, hP1, hK1, hD1, hx_357⟩ := hB
        rw [ht] at hP1
        have hK := va_K.moved hvm.symm hK1
        have hD := hD1.weaken (fun _ _ _ h => hFc _ h)
        generalize H1 = H at hP1 hS ⊢
        have hP := hP1
        have e_359 := hm_356.objK e_341 (by decide)
        obtain ⟨g_361, e_360, h_362⟩ := hm_356.obj e_342
        obtain ⟨z_363, z_364, z_365, z_366, rfl⟩ := smX6 h_362
        obtain ⟨f_368, e_367⟩ := hm_356.arrI e_343
        have u_369 := ht_358 _ _ u_345
        obtain ⟨f_371, e_370⟩ := hm_356.arrI e_346
        have u_372 := ht_358 _ _ u_348
        have hsm := hsm.tr (hm_356.mono (by decide))
        have hlp_93 := hlp_93.tr (hm_356.mono (by decide))
        have htx := htx.tr ht_358
        obtain ⟨k_373, s_374, e_375, h_376, h_377, h_378, e_379⟩ := hx_357
        refine lv_aload_n hx hb dX4_readEither_78 rfl (lv_at hl 5 rfl) ?_
        refine lv_iload_n hx hb dX4_readEither_79 rfl (lv_at hl 4 rfl) ?_
        have hFc := free_all hD hS hA
        refine va_calli (va_runV (As := [.int 3]) (rest := []) ⟨hx, hb, hml, hown, hts⟩ (r_readOne3 l D ws_354 ty_355 adK adV fo rd krd tp ktp cd bb tl  H.size (⟨s_374, e_375, cc_117, ra_118, rb_119, rc_120, rv_121, re_122, nI k_373, by omega, by omega, by omega, by omega, e_359, e_379, ⟨k_130, c9_131, t_132, f_368, e_367, u_369⟩, ⟨k_136, c9_137, t_138, f_371, e_370, u_372⟩⟩ : RS ws_354 ty_355 rd krd tp ktp cd bb tl)) (cwV 1 hts gX4_readEither_X4_readOne rfl rfl rfl (by decide +kernel) ⟨Nat.le_of_ble_eq_true rfl, Nat.le_of_ble_eq_true rfl⟩) ⟨fun a U g mk q => by obtain ⟨q0, q1, qP, qK, qD, qS⟩ := q; exact ⟨q0, q1, qP, va_K.moved (u := U) (U := U.calling g mk a) (Vm.Alike.refl U.vm) qK, qD, SZ.same rfl rfl qS⟩, va_recv hK hP (ci := 4) (q0 := krd) rfl e_359, fun U hU hW => ⟨rfl, by rw [hU], by rw [hU]; exact hP, va_K.moved hW.alike hK, hD.weaken (fun _ _ _ _ => trivial), hsz9.go hS hW hU hFc⟩⟩ rfl rfl hl.1 rfl (lv_room (Nat.le_of_ble_eq_true rfl)) dX4_readEither_80 ⟨Nat.le_of_ble_eq_true rfl, Nat.le_of_ble_eq_true rfl⟩) hS (fun q _ h => hFc q h) hFc (fun r_380 u t H1 locs ht hvm w_381 hB hz1 hk1 hS => ?_)
        obtain ⟨ws_382, ty_383, hm_384, ht_386, hP1, hK1, hD1, hx_385⟩ := hB
        rw [ht] at hP1
        have hK := va_K.moved hvm.symm hK1
        have hD := hD1.weaken (fun _ _ _ h => hFc _ h)
        generalize H1 = H at hP1 hS ⊢
        have hP := hP1
        obtain ⟨g_388, e_387, h_389⟩ := hm_384.obj e_359
        obtain ⟨z_390, z_391, z_392, z_393, z_394, z_395, rfl⟩ := smX4 h_389
        obtain ⟨g_397, e_396, h_398⟩ := hm_384.obj e_379
        obtain ⟨z_399, z_400, z_401, z_402, rfl⟩ := smX6 h_398
        obtain ⟨f_404, e_403⟩ := hm_384.arrI e_367
        have u_405 := ht_386 _ _ u_369
        obtain ⟨f_407, e_406⟩ := hm_384.arrI e_370
        have u_408 := ht_386 _ _ u_372
        have hsm := hsm.tr (hm_384.mono (by decide))
        have hlp_93 := hlp_93.tr (hm_384.mono (by decide))
        have htx := htx.tr ht_386
        obtain ⟨ts_409, te_410, cc_411, ra_412, rb_413, rc_414, rv_415, re_416, ya_417, h1_418, h2_419, h3_420, h4_421, er_422, et_423, ⟨k_424, c9_425, t_426, f_427, e_428, u_429⟩, ⟨k_430, c9_431, t_432, f_433, e_434, u_435⟩⟩ := id hx_385
        refine lv_istore_n (lv' := [(2, .int r_380), (3, .int 1), (5, .int 0), (4, .int (nI i_85)), (1, .int 3), (0, .ref rd)]) hx hb dX4_readEither_83 rfl hl (by decide) rfl (fun ls hl => ?_)
        refine lv_iload hx hb dX4_readEither_84 (lv_at hl 2 rfl) ?_
        refine lv_if_eq (tgt := 95) hx hb dX4_readEither_86 (by decide) (fun c_436 => ?_) (fun c_436 => absurd (by decide) c_436)
        refine lv_iinc (v := nI (i_85 + 1)) (lv' := [(4, .int (nI (i_85 + 1))), (2, .int r_380), (3, .int 1), (5, .int 0), (1, .int 3), (0, .ref rd)]) hx hb dX4_readEither_95 hl (k := 3) rfl (nI_add i_85 1) (by decide) rfl (fun ls hl => ?_)
        refine lv_goto (tgt := 11) hx hb dX4_readEither_98 (by decide) ?_
        exact ih_84 (i_85 + 1, r_380, 1) ws_382 _ _ ls (by show 400 - (i_85 + 1) < 400 - i_85; omega) ⟨hlp_93, (⟨ts_409, te_410, cc_411, ra_412, rb_413, rc_414, rv_415, re_416, ya_417, by omega, by omega, by omega, by omega, er_422, et_423, ⟨k_424, c9_425, t_426, f_427, e_428, u_429⟩, ⟨k_430, c9_431, t_432, f_433, e_434, u_435⟩⟩ : RS ws_382 ty_383 rd krd tp ktp cd bb tl), (show (i_85 + 1) ≤ 400 from by omega), (show r_380 = 0 ∨ r_380 = 1 from w_381), (show 1 = 0 ∨ 1 = 1 from Or.inr rfl)⟩ hP hD hS (lv_sub hl [0, 1, 2, 4, 5] rfl)
      refine lv_iload hx hb dX4_readEither_60 (lv_at hl 0 rfl) ?_
      refine lv_if_ne (tgt := 69) hx hb dX4_readEither_62 (by decide) (fun c_437 => absurd (by decide) c_437) (fun c_437 => ?_)
      refine lv_iconst (v := 1) hx hb dX4_readEither_65 (by decide) ?_
      refine lv_goto (tgt := 70) hx hb dX4_readEither_66 (by decide) ?_
      refine lv_istore_n (lv' := [(3, .int 1), (5, .int 0), (4, .int (nI i_85)), (2, .int x_86), (1, .int 3), (0, .ref rd)]) hx hb dX4_readEither_70 rfl hl (by decide) rfl (fun ls hl => ?_)
      refine lv_aload_n hx hb dX4_readEither_71 rfl (lv_at hl 5 rfl) ?_
      refine va_get (D := D) (ci := 4) (v := .ref tp) (C := RX4) (T := TX4) (N := 8) hx hb hts hin4 hown hK hP krd e_341 rfl 0 (by decide) (hts (.fieldLink RX4 12 "HoneyHouse$RuleReader" "tape" "LHoneyHouse$Tape;") (List.mem_of_getElem? (i := 1) rfl)) (fun _ h9 => h9) rfl dX4_readEither_72 ?_
      have hFc := free_all hD hS hA
      refine va_callv (va_runV (As := []) (rest := []) ⟨hx, hb, hml, hown, hts⟩ (a_advance l D ws_336 ty_337 tp ktp tl te_116 ya_123 (nI ts_115) bb k_136 c9_137 t_138 f_347 H.size (by omega) (by omega) e_342 e_346 u_348) (cwV 0 hts gX4_readEither_X6_advance rfl rfl rfl (by decide +kernel) ⟨Nat.le_of_ble_eq_true rfl, Nat.le_of_ble_eq_true rfl⟩) ⟨fun a U g mk q => by obtain ⟨q0, q1, qP, qK, qD⟩ := q; exact ⟨q0, q1, qP, va_K.moved (u := U) (U := U.calling g mk a) (Vm.Alike.refl U.vm) qK, qD⟩, va_recv hK hP (ci := 6) (q0 := ktp) rfl e_342, fun U hU hW => ⟨rfl, by rw [hU], by rw [hU]; exact hP, va_K.moved hW.alike hK, hD.weaken (fun _ _ _ _ => trivial)⟩⟩ rfl rfl hl.1 rfl (lv_room (Nat.le_of_ble_eq_true rfl)) dX4_readEither_75 ⟨Nat.le_of_ble_eq_true rfl, Nat.le_of_ble_eq_true rfl⟩) hS (fun q _ h => hFc q h) hFc (fun u t H1 locs ht hvm w_439 hB hz1 hk1 hS => ?_)
      obtain ⟨ws_440, ty_441, hm_442, ht_444, hP1, hK1, hD1, hx_443⟩ := hB
      rw [ht] at hP1
      have hK := va_K.moved hvm.symm hK1
      have hD := hD1.weaken (fun _ _ _ h => hFc _ h)
      generalize H1 = H at hP1 hS ⊢
      have hP := hP1
      have e_445 := hm_442.objK e_341 (by decide)
      obtain ⟨g_447, e_446, h_448⟩ := hm_442.obj e_342
      obtain ⟨z_449, z_450, z_451, z_452, rfl⟩ := smX6 h_448
      obtain ⟨f_454, e_453⟩ := hm_442.arrI e_343
      have u_455 := ht_444 _ _ u_345
      obtain ⟨f_457, e_456⟩ := hm_442.arrI e_346
      have u_458 := ht_444 _ _ u_348
      have hsm := hsm.tr (hm_442.mono (by decide))
      have hlp_93 := hlp_93.tr (hm_442.mono (by decide))
      have htx := htx.tr ht_444
      obtain ⟨k_459, s_460, e_461, h_462, h_463, h_464, e_465⟩ := hx_443
      refine lv_aload_n hx hb dX4_readEither_78 rfl (lv_at hl 5 rfl) ?_
      refine lv_iload_n hx hb dX4_readEither_79 rfl (lv_at hl 4 rfl) ?_
      have hFc := free_all hD hS hA
      refine va_calli (va_runV (As := [.int 3]) (rest := []) ⟨hx, hb, hml, hown, hts⟩ (r_readOne3 l D ws_440 ty_441 adK adV fo rd krd tp ktp cd bb tl  H.size (⟨s_460, e_461, cc_117, ra_118, rb_119, rc_120, rv_121, re_122, nI k_459, by omega, by omega, by omega, by omega, e_445, e_465, ⟨k_130, c9_131, t_132, f_454, e_453, u_455⟩, ⟨k_136, c9_137, t_138, f_457, e_456, u_458⟩⟩ : RS ws_440 ty_441 rd krd tp ktp cd bb tl)) (cwV 1 hts gX4_readEither_X4_readOne rfl rfl rfl (by decide +kernel) ⟨Nat.le_of_ble_eq_true rfl, Nat.le_of_ble_eq_true rfl⟩) ⟨fun a U g mk q => by obtain ⟨q0, q1, qP, qK, qD, qS⟩ := q; exact ⟨q0, q1, qP, va_K.moved (u := U) (U := U.calling g mk a) (Vm.Alike.refl U.vm) qK, qD, SZ.same rfl rfl qS⟩, va_recv hK hP (ci := 4) (q0 := krd) rfl e_445, fun U hU hW => ⟨rfl, by rw [hU], by rw [hU]; exact hP, va_K.moved hW.alike hK, hD.weaken (fun _ _ _ _ => trivial), hsz9.go hS hW hU hFc⟩⟩ rfl rfl hl.1 rfl (lv_room (Nat.le_of_ble_eq_true rfl)) dX4_readEither_80 ⟨Nat.le_of_ble_eq_true rfl, Nat.le_of_ble_eq_true rfl⟩) hS (fun q _ h => hFc q h) hFc (fun r_466 u t H1 locs ht hvm w_467 hB hz1 hk1 hS => ?_)
      obtain ⟨ws_468, ty_469, hm_470, ht_472, hP1, hK1, hD1, hx_471⟩ := hB
      rw [ht] at hP1
      have hK := va_K.moved hvm.symm hK1
      have hD := hD1.weaken (fun _ _ _ h => hFc _ h)
      generalize H1 = H at hP1 hS ⊢
      have hP := hP1
      obtain ⟨g_474, e_473, h_475⟩ := hm_470.obj e_445
      obtain ⟨z_476, z_477, z_478, z_479, z_480, z_481, rfl⟩ := smX4 h_475
      obtain ⟨g_483, e_482, h_484⟩ := hm_470.obj e_465
      obtain ⟨z_485, z_486, z_487, z_488, rfl⟩ := smX6 h_484
      obtain ⟨f_490, e_489⟩ := hm_470.arrI e_453
      have u_491 := ht_472 _ _ u_455
      obtain ⟨f_493, e_492⟩ := hm_470.arrI e_456
      have u_494 := ht_472 _ _ u_458
      have hsm := hsm.tr (hm_470.mono (by decide))
      have hlp_93 := hlp_93.tr (hm_470.mono (by decide))
      have htx := htx.tr ht_472
      obtain ⟨ts_495, te_496, cc_497, ra_498, rb_499, rc_500, rv_501, re_502, ya_503, h1_504, h2_505, h3_506, h4_507, er_508, et_509, ⟨k_510, c9_511, t_512, f_513, e_514, u_515⟩, ⟨k_516, c9_517, t_518, f_519, e_520, u_521⟩⟩ := id hx_471
      refine lv_istore_n (lv' := [(2, .int r_466), (3, .int 1), (5, .int 0), (4, .int (nI i_85)), (1, .int 3), (0, .ref rd)]) hx hb dX4_readEither_83 rfl hl (by decide) rfl (fun ls hl => ?_)
      refine lv_iload hx hb dX4_readEither_84 (lv_at hl 2 rfl) ?_
      refine lv_if_eq (tgt := 95) hx hb dX4_readEither_86 (by decide) (fun c_522 => ?_) (fun c_522 => absurd (by decide) c_522)
      refine lv_iinc (v := nI (i_85 + 1)) (lv' := [(4, .int (nI (i_85 + 1))), (2, .int r_466), (3, .int 1), (5, .int 0), (1, .int 3), (0, .ref rd)]) hx hb dX4_readEither_95 hl (k := 3) rfl (nI_add i_85 1) (by decide) rfl (fun ls hl => ?_)
      refine lv_goto (tgt := 11) hx hb dX4_readEither_98 (by decide) ?_
      exact ih_84 (i_85 + 1, r_466, 1) ws_468 _ _ ls (by show 400 - (i_85 + 1) < 400 - i_85; omega) ⟨hlp_93, (⟨ts_495, te_496, cc_497, ra_498, rb_499, rc_500, rv_501, re_502, ya_503, by omega, by omega, by omega, by omega, er_508, et_509, ⟨k_510, c9_511, t_512, f_513, e_514, u_515⟩, ⟨k_516, c9_517, t_518, f_519, e_520, u_521⟩⟩ : RS ws_468 ty_469 rd krd tp ktp cd bb tl), (show (i_85 + 1) ≤ 400 from by omega), (show r_466 = 0 ∨ r_466 = 1 from w_467), (show 1 = 0 ∨ 1 = 1 from Or.inr rfl)⟩ hP hD hS (lv_sub hl [0, 1, 2, 4, 5] rfl)
    refine lv_aload_n hx hb dX4_readEither_50 rfl (lv_at hl 5 rfl) ?_
    refine lv_bipush (v := (-3)) hx hb dX4_readEither_51 (by decide) ?_
    have hFc := free_all hD hS hA
    refine va_callv (va_runV (As := [.int (-3)]) (rest := []) ⟨hx, hb, hml, hown, hts⟩ (r_addCode l D ws_336 ty_337 adK adV fo rd krd tp ktp cd bb tl (-3) H.size (⟨ts_115, te_116, cc_117, ra_118, rb_119, rc_120, rv_121, re_122, ya_123, by omega, by omega, by omega, by omega, e_341, e_342, ⟨k_130, c9_131, t_132, f_344, e_343, u_345⟩, ⟨k_136, c9_137, t_138, f_347, e_346, u_348⟩⟩ : RS ws_336 ty_337 rd krd tp ktp cd bb tl)) (cwV 1 hts gX4_readEither_X4_addCode rfl rfl rfl (by decide +kernel) ⟨Nat.le_of_ble_eq_true rfl, Nat.le_of_ble_eq_true rfl⟩) ⟨fun a U g mk q => by obtain ⟨q0, q1, qP, qK, qD, qS⟩ := q; exact ⟨q0, q1, qP, va_K.moved (u := U) (U := U.calling g mk a) (Vm.Alike.refl U.vm) qK, qD, SZ.same rfl rfl qS⟩, va_recv hK hP (ci := 4) (q0 := krd) rfl e_341, fun U hU hW => ⟨rfl, by rw [hU], by rw [hU]; exact hP, va_K.moved hW.alike hK, hD.weaken (fun _ _ _ _ => trivial), hsz9.go hS hW hU hFc⟩⟩ rfl rfl hl.1 rfl (lv_room (Nat.le_of_ble_eq_true rfl)) dX4_readEither_53 ⟨Nat.le_of_ble_eq_true rfl, Nat.le_of_ble_eq_true rfl⟩) hS (fun q _ h => hFc q h) hFc (fun u t H1 locs ht hvm w_524 hB hz1 hk1 hS => ?_)
    obtain ⟨ws_525, ty_526, hm_527, ht_529, hP1, hK1, hD1, hx_528⟩ := hB
    rw [ht] at hP1
    have hK := va_K.moved hvm.symm hK1
    have hD := hD1.weaken (fun _ _ _ h => hFc _ h)
    generalize H1 = H at hP1 hS ⊢
    have hP := hP1
    obtain ⟨g_531, e_530, h_532⟩ := hm_527.obj e_341
    obtain ⟨z_533, z_534, z_535, z_536, z_537, z_538, rfl⟩ := smX4 h_532
    obtain ⟨g_540, e_539, h_541⟩ := hm_527.obj e_342
    obtain ⟨z_542, z_543, z_544, z_545, rfl⟩ := smX6 h_541
    obtain ⟨f_547, e_546⟩ := hm_527.arrI e_343
    have u_548 := ht_529 _ _ u_345
    obtain ⟨f_550, e_549⟩ := hm_527.arrI e_346
    have u_551 := ht_529 _ _ u_348
    have hsm := hsm.tr (hm_527.mono (by decide))
    have hlp_93 := hlp_93.tr (hm_527.mono (by decide))
    have htx := htx.tr ht_529
    obtain ⟨ts_552, te_553, cc_554, ra_555, rb_556, rc_557, rv_558, re_559, ya_560, h1_561, h2_562, h3_563, h4_564, er_565, et_566, ⟨k_567, c9_568, t_569, f_570, e_571, u_572⟩, ⟨k_573, c9_574, t_575, f_576, e_577, u_578⟩⟩ := id hx_528
    refine lv_iload_n hx hb dX4_readEither_56 rfl (lv_at hl 3 rfl) ?_
    refine lv_if_ne (tgt := 65) hx hb dX4_readEither_57 (by decide) (fun c_579 => ?_) (fun c_579 => ?_)
    · refine lv_iconst (v := 1) hx hb dX4_readEither_65 (by decide) ?_
      refine lv_goto (tgt := 70) hx hb dX4_readEither_66 (by decide) ?_
      refine lv_istore_n (lv' := [(3, .int 1), (5, .int 0), (4, .int (nI i_85)), (2, .int x_86), (1, .int 3), (0, .ref rd)]) hx hb dX4_readEither_70 rfl hl (by decide) rfl (fun ls hl => ?_)
      refine lv_aload_n hx hb dX4_readEither_71 rfl (lv_at hl 5 rfl) ?_
      refine va_get (D := D) (ci := 4) (v := .ref tp) (C := RX4) (T := TX4) (N := 8) hx hb hts hin4 hown hK hP krd er_565 rfl 0 (by decide) (hts (.fieldLink RX4 12 "HoneyHouse$RuleReader" "tape" "LHoneyHouse$Tape;") (List.mem_of_getElem? (i := 1) rfl)) (fun _ h9 => h9) rfl dX4_readEither_72 ?_
      have hFc := free_all hD hS hA
      refine va_callv (va_runV (As := []) (rest := []) ⟨hx, hb, hml, hown, hts⟩ (a_advance l D ws_525 ty_526 tp ktp tl te_553 ya_560 (nI ts_552) bb k_573 c9_574 t_575 f_576 H.size (by omega) (by omega) et_566 e_577 u_578) (cwV 0 hts gX4_readEither_X6_advance rfl rfl rfl (by decide +kernel) ⟨Nat.le_of_ble_eq_true rfl, Nat.le_of_ble_eq_true rfl⟩) ⟨fun a U g mk q => by obtain ⟨q0, q1, qP, qK, qD⟩ := q; exact ⟨q0, q1, qP, va_K.moved (u := U) (U := U.calling g mk a) (Vm.Alike.refl U.vm) qK, qD⟩, va_recv hK hP (ci := 6) (q0 := ktp) rfl et_566, fun U hU hW => ⟨rfl, by rw [hU], by rw [hU]; exact hP, va_K.moved hW.alike hK, hD.weaken (fun _ _ _ _ => trivial)⟩⟩ rfl rfl hl.1 rfl (lv_room (Nat.le_of_ble_eq_true rfl)) dX4_readEither_75 ⟨Nat.le_of_ble_eq_true rfl, Nat.le_of_ble_eq_true rfl⟩) hS (fun q _ h => hFc q h) hFc (fun u t H1 locs ht hvm w_581 hB hz1 hk1 hS => ?_)
      obtain ⟨ws_582, ty_583, hm_584, ht_586, hP1, hK1, hD1, hx_585⟩ := hB
      rw [ht] at hP1
      have hK := va_K.moved hvm.symm hK1
      have hD := hD1.weaken (fun _ _ _ h => hFc _ h)
      generalize H1 = H at hP1 hS ⊢
      have hP := hP1
      have e_587 := hm_584.objK er_565 (by decide)
      obtain ⟨g_589, e_588, h_590⟩ := hm_584.obj et_566
      obtain ⟨z_591, z_592, z_593, z_594, rfl⟩ := smX6 h_590
      obtain ⟨f_596, e_595⟩ := hm_584.arrI e_571
      have u_597 := ht_586 _ _ u_572
      obtain ⟨f_599, e_598⟩ := hm_584.arrI e_577
      have u_600 := ht_586 _ _ u_578
      have hsm := hsm.tr (hm_584.mono (by decide))
      have hlp_93 := hlp_93.tr (hm_584.mono (by decide))
      have htx := htx.tr ht_586
      obtain ⟨k_601, s_602, e_603, h_604, h_605, h_606, e_607⟩ := hx_585
      refine lv_aload_n hx hb dX4_readEither_78 rfl (lv_at hl 5 rfl) ?_
      refine lv_iload_n hx hb dX4_readEither_79 rfl (lv_at hl 4 rfl) ?_
      have hFc := free_all hD hS hA
      refine va_calli (va_runV (As := [.int 3]) (rest := []) ⟨hx, hb, hml, hown, hts⟩ (r_readOne3 l D ws_582 ty_583 adK adV fo rd krd tp ktp cd bb tl  H.size (⟨s_602, e_603, cc_554, ra_555, rb_556, rc_557, rv_558, re_559, nI k_601, by omega, by omega, by omega, by omega, e_587, e_607, ⟨k_567, c9_568, t_569, f_596, e_595, u_597⟩, ⟨k_573, c9_574, t_575, f_599, e_598, u_600⟩⟩ : RS ws_582 ty_583 rd krd tp ktp cd bb tl)) (cwV 1 hts gX4_readEither_X4_readOne rfl rfl rfl (by decide +kernel) ⟨Nat.le_of_ble_eq_true rfl, Nat.le_of_ble_eq_true rfl⟩) ⟨fun a U g mk q => by obtain ⟨q0, q1, qP, qK, qD, qS⟩ := q; exact ⟨q0, q1, qP, va_K.moved (u := U) (U := U.calling g mk a) (Vm.Alike.refl U.vm) qK, qD, SZ.same rfl rfl qS⟩, va_recv hK hP (ci := 4) (q0 := krd) rfl e_587, fun U hU hW => ⟨rfl, by rw [hU], by rw [hU]; exact hP, va_K.moved hW.alike hK, hD.weaken (fun _ _ _ _ => trivial), hsz9.go hS hW hU hFc⟩⟩ rfl rfl hl.1 rfl (lv_room (Nat.le_of_ble_eq_true rfl)) dX4_readEither_80 ⟨Nat.le_of_ble_eq_true rfl, Nat.le_of_ble_eq_true rfl⟩) hS (fun q _ h => hFc q h) hFc (fun r_608 u t H1 locs ht hvm w_609 hB hz1 hk1 hS => ?_)
      obtain ⟨ws_610, ty_611, hm_612, ht_614, hP1, hK1, hD1, hx_613⟩ := hB
      rw [ht] at hP1
      have hK := va_K.moved hvm.symm hK1
      have hD := hD1.weaken (fun _ _ _ h => hFc _ h)
      generalize H1 = H at hP1 hS ⊢
      have hP := hP1
      obtain ⟨g_616, e_615, h_617⟩ := hm_612.obj e_587
      obtain ⟨z_618, z_619, z_620, z_621, z_622, z_623, rfl⟩ := smX4 h_617
      obtain ⟨g_625, e_624, h_626⟩ := hm_612.obj e_607
      obtain ⟨z_627, z_628, z_629, z_630, rfl⟩ := smX6 h_626
      obtain ⟨f_632, e_631⟩ := hm_612.arrI e_595
      have u_633 := ht_614 _ _ u_597
      obtain ⟨f_635, e_634⟩ := hm_612.arrI e_598
      have u_636 := ht_614 _ _ u_600
      have hsm := hsm.tr (hm_612.mono (by decide))
      have hlp_93 := hlp_93.tr (hm_612.mono (by decide))
      have htx := htx.tr ht_614
      obtain ⟨ts_637, te_638, cc_639, ra_640, rb_641, rc_642, rv_643, re_644, ya_645, h1_646, h2_647, h3_648, h4_649, er_650, et_651, ⟨k_652, c9_653, t_654, f_655, e_656, u_657⟩, ⟨k_658, c9_659, t_660, f_661, e_662, u_663⟩⟩ := id hx_613
      refine lv_istore_n (lv' := [(2, .int r_608), (3, .int 1), (5, .int 0), (4, .int (nI i_85)), (1, .int 3), (0, .ref rd)]) hx hb dX4_readEither_83 rfl hl (by decide) rfl (fun ls hl => ?_)
      refine lv_iload hx hb dX4_readEither_84 (lv_at hl 2 rfl) ?_
      refine lv_if_eq (tgt := 95) hx hb dX4_readEither_86 (by decide) (fun c_664 => ?_) (fun c_664 => absurd (by decide) c_664)
      refine lv_iinc (v := nI (i_85 + 1)) (lv' := [(4, .int (nI (i_85 + 1))), (2, .int r_608), (3, .int 1), (5, .int 0), (1, .int 3), (0, .ref rd)]) hx hb dX4_readEither_95 hl (k := 3) rfl (nI_add i_85 1) (by decide) rfl (fun ls hl => ?_)
      refine lv_goto (tgt := 11) hx hb dX4_readEither_98 (by decide) ?_
      exact ih_84 (i_85 + 1, r_608, 1) ws_610 _ _ ls (by show 400 - (i_85 + 1) < 400 - i_85; omega) ⟨hlp_93, (⟨ts_637, te_638, cc_639, ra_640, rb_641, rc_642, rv_643, re_644, ya_645, by omega, by omega, by omega, by omega, er_650, et_651, ⟨k_652, c9_653, t_654, f_655, e_656, u_657⟩, ⟨k_658, c9_659, t_660, f_661, e_662, u_663⟩⟩ : RS ws_610 ty_611 rd krd tp ktp cd bb tl), (show (i_85 + 1) ≤ 400 from by omega), (show r_608 = 0 ∨ r_608 = 1 from w_609), (show 1 = 0 ∨ 1 = 1 from Or.inr rfl)⟩ hP hD hS (lv_sub hl [0, 1, 2, 4, 5] rfl)
    refine lv_iload hx hb dX4_readEither_60 (lv_at hl 0 rfl) ?_
    refine lv_if_ne (tgt := 69) hx hb dX4_readEither_62 (by decide) (fun c_665 => absurd (by decide) c_665) (fun c_665 => ?_)
    refine lv_iconst (v := 1) hx hb dX4_readEither_65 (by decide) ?_
    refine lv_goto (tgt := 70) hx hb dX4_readEither_66 (by decide) ?_
    refine lv_istore_n (lv' := [(3, .int 1), (5, .int 0), (4, .int (nI i_85)), (2, .int x_86), (1, .int 3), (0, .ref rd)]) hx hb dX4_readEither_70 rfl hl (by decide) rfl (fun ls hl => ?_)
    refine lv_aload_n hx hb dX4_readEither_71 rfl (lv_at hl 5 rfl) ?_
    refine va_get (D := D) (ci := 4) (v := .ref tp) (C := RX4) (T := TX4) (N := 8) hx hb hts hin4 hown hK hP krd er_565 rfl 0 (by decide) (hts (.fieldLink RX4 12 "HoneyHouse$RuleReader" "tape" "LHoneyHouse$Tape;") (List.mem_of_getElem? (i := 1) rfl)) (fun _ h9 => h9) rfl dX4_readEither_72 ?_
    have hFc := free_all hD hS hA
    refine va_callv (va_runV (As := []) (rest := []) ⟨hx, hb, hml, hown, hts⟩ (a_advance l D ws_525 ty_526 tp ktp tl te_553 ya_560 (nI ts_552) bb k_573 c9_574 t_575 f_576 H.size (by omega) (by omega) et_566 e_577 u_578) (cwV 0 hts gX4_readEither_X6_advance rfl rfl rfl (by decide +kernel) ⟨Nat.le_of_ble_eq_true rfl, Nat.le_of_ble_eq_true rfl⟩) ⟨fun a U g mk q => by obtain ⟨q0, q1, qP, qK, qD⟩ := q; exact ⟨q0, q1, qP, va_K.moved (u := U) (U := U.calling g mk a) (Vm.Alike.refl U.vm) qK, qD⟩, va_recv hK hP (ci := 6) (q0 := ktp) rfl et_566, fun U hU hW => ⟨rfl, by rw [hU], by rw [hU]; exact hP, va_K.moved hW.alike hK, hD.weaken (fun _ _ _ _ => trivial)⟩⟩ rfl rfl hl.1 rfl (lv_room (Nat.le_of_ble_eq_true rfl)) dX4_readEither_75 ⟨Nat.le_of_ble_eq_true rfl, Nat.le_of_ble_eq_true rfl⟩) hS (fun q _ h => hFc q h) hFc (fun u t H1 locs ht hvm w_667 hB hz1 hk1 hS => ?_)
    obtain ⟨ws_668, ty_669, hm_670, ht_672, hP1, hK1, hD1, hx_671⟩ := hB
    rw [ht] at hP1
    have hK := va_K.moved hvm.symm hK1
    have hD := hD1.weaken (fun _ _ _ h => hFc _ h)
    generalize H1 = H at hP1 hS ⊢
    have hP := hP1
    have e_673 := hm_670.objK er_565 (by decide)
    obtain ⟨g_675, e_674, h_676⟩ := hm_670.obj et_566
    obtain ⟨z_677, z_678, z_679, z_680, rfl⟩ := smX6 h_676
    obtain ⟨f_682, e_681⟩ := hm_670.arrI e_571
    have u_683 := ht_672 _ _ u_572
    obtain ⟨f_685, e_684⟩ := hm_670.arrI e_577
    have u_686 := ht_672 _ _ u_578
    have hsm := hsm.tr (hm_670.mono (by decide))
    have hlp_93 := hlp_93.tr (hm_670.mono (by decide))
    have htx := htx.tr ht_672
    obtain ⟨k_687, s_688, e_689, h_690, h_691, h_692, e_693⟩ := hx_671
    refine lv_aload_n hx hb dX4_readEither_78 rfl (lv_at hl 5 rfl) ?_
    refine lv_iload_n hx hb dX4_readEither_79 rfl (lv_at hl 4 rfl) ?_
    have hFc := free_all hD hS hA
    refine va_calli (va_runV (As := [.int 3]) (rest := []) ⟨hx, hb, hml, hown, hts⟩ (r_readOne3 l D ws_668 ty_669 adK adV fo rd krd tp ktp cd bb tl  H.size (⟨s_688, e_689, cc_554, ra_555, rb_556, rc_557, rv_558, re_559, nI k_687, by omega, by omega, by omega, by omega, e_673, e_693, ⟨k_567, c9_568, t_569, f_682, e_681, u_683⟩, ⟨k_573, c9_574, t_575, f_685, e_684, u_686⟩⟩ : RS ws_668 ty_669 rd krd tp ktp cd bb tl)) (cwV 1 hts gX4_readEither_X4_readOne rfl rfl rfl (by decide +kernel) ⟨Nat.le_of_ble_eq_true rfl, Nat.le_of_ble_eq_true rfl⟩) ⟨fun a U g mk q => by obtain ⟨q0, q1, qP, qK, qD, qS⟩ := q; exact ⟨q0, q1, qP, va_K.moved (u := U) (U := U.calling g mk a) (Vm.Alike.refl U.vm) qK, qD, SZ.same rfl rfl qS⟩, va_recv hK hP (ci := 4) (q0 := krd) rfl e_673, fun U hU hW => ⟨rfl, by rw [hU], by rw [hU]; exact hP, va_K.moved hW.alike hK, hD.weaken (fun _ _ _ _ => trivial), hsz9.go hS hW hU hFc⟩⟩ rfl rfl hl.1 rfl (lv_room (Nat.le_of_ble_eq_true rfl)) dX4_readEither_80 ⟨Nat.le_of_ble_eq_true rfl, Nat.le_of_ble_eq_true rfl⟩) hS (fun q _ h => hFc q h) hFc (fun r_694 u t H1 locs ht hvm w_695 hB hz1 hk1 hS => ?_)
    obtain ⟨ws_696, ty_697, hm_698, ht_700, hP1, hK1, hD1, hx_699⟩ := hB
    rw [ht] at hP1
    have hK := va_K.moved hvm.symm hK1
    have hD := hD1.weaken (fun _ _ _ h => hFc _ h)
    generalize H1 = H at hP1 hS ⊢
    have hP := hP1
    obtain ⟨g_702, e_701, h_703⟩ := hm_698.obj e_673
    obtain ⟨z_704, z_705, z_706, z_707, z_708, z_709, rfl⟩ := smX4 h_703
    obtain ⟨g_711, e_710, h_712⟩ := hm_698.obj e_693
    obtain ⟨z_713, z_714, z_715, z_716, rfl⟩ := smX6 h_712
    obtain ⟨f_718, e_717⟩ := hm_698.arrI e_681
    have u_719 := ht_700 _ _ u_683
    obtain ⟨f_721, e_720⟩ := hm_698.arrI e_684
    have u_722 := ht_700 _ _ u_686
    have hsm := hsm.tr (hm_698.mono (by decide))
    have hlp_93 := hlp_93.tr (hm_698.mono (by decide))
    have htx := htx.tr ht_700
    obtain ⟨ts_723, te_724, cc_725, ra_726, rb_727, rc_728, rv_729, re_730, ya_731, h1_732, h2_733, h3_734, h4_735, er_736, et_737, ⟨k_738, c9_739, t_740, f_741, e_742, u_743⟩, ⟨k_744, c9_745, t_746, f_747, e_748, u_749⟩⟩ := id hx_699
    refine lv_istore_n (lv' := [(2, .int r_694), (3, .int 1), (5, .int 0), (4, .int (nI i_85)), (1, .int 3), (0, .ref rd)]) hx hb dX4_readEither_83 rfl hl (by decide) rfl (fun ls hl => ?_)
    refine lv_iload hx hb dX4_readEither_84 (lv_at hl 2 rfl) ?_
    refine lv_if_eq (tgt := 95) hx hb dX4_readEither_86 (by decide) (fun c_750 => ?_) (fun c_750 => absurd (by decide) c_750)
    refine lv_iinc (v := nI (i_85 + 1)) (lv' := [(4, .int (nI (i_85 + 1))), (2, .int r_694), (3, .int 1), (5, .int 0), (1, .int 3), (0, .ref rd)]) hx hb dX4_readEither_95 hl (k := 3) rfl (nI_add i_85 1) (by decide) rfl (fun ls hl => ?_)
    refine lv_goto (tgt := 11) hx hb dX4_readEither_98 (by decide) ?_
    exact ih_84 (i_85 + 1, r_694, 1) ws_696 _ _ ls (by show 400 - (i_85 + 1) < 400 - i_85; omega) ⟨hlp_93, (⟨ts_723, te_724, cc_725, ra_726, rb_727, rc_728, rv_729, re_730, ya_731, by omega, by omega, by omega, by omega, er_736, et_737, ⟨k_738, c9_739, t_740, f_741, e_742, u_743⟩, ⟨k_744, c9_745, t_746, f_747, e_748, u_749⟩⟩ : RS ws_696 ty_697 rd krd tp ktp cd bb tl), (show (i_85 + 1) ≤ 400 from by omega), (show r_694 = 0 ∨ r_694 = 1 from w_695), (show 1 = 0 ∨ 1 = 1 from Or.inr rfl)⟩ hP hD hS (lv_sub hl [0, 1, 2, 4, 5] rfl)
  refine lv_istore (lv' := [(5, .int 1), (4, .int (nI i_85)), (2, .int x_86), (3, .int y_87), (1, .int 3), (0, .ref rd)]) hx hb dX4_readEither_39 hl (by decide) rfl (fun ls hl => ?_)
  refine lv_iload hx hb dX4_readEither_41 (lv_at hl 0 rfl) ?_
  refine lv_if_ne (tgt := 56) hx hb dX4_readEither_43 (by decide) (fun c_751 => ?_) (fun c_751 => absurd c_751 (by decide))
  refine lv_iload_n hx hb dX4_readEither_56 rfl (lv_at hl 3 rfl) ?_
  refine lv_if_ne (tgt := 65) hx hb dX4_readEither_57 (by decide) (fun c_752 => ?_) (fun c_752 => ?_)
  · refine lv_iconst (v := 1) hx hb dX4_readEither_65 (by decide) ?_
    refine lv_goto (tgt := 70) hx hb dX4_readEither_66 (by decide) ?_
    refine lv_istore_n (lv' := [(3, .int 1), (5, .int 1), (4, .int (nI i_85)), (2, .int x_86), (1, .int 3), (0, .ref rd)]) hx hb dX4_readEither_70 rfl hl (by decide) rfl (fun ls hl => ?_)
    refine lv_aload_n hx hb dX4_readEither_71 rfl (lv_at hl 5 rfl) ?_
    refine va_get (D := D) (ci := 4) (v := .ref tp) (C := RX4) (T := TX4) (N := 8) hx hb hts hin4 hown hK hP krd e_341 rfl 0 (by decide) (hts (.fieldLink RX4 12 "HoneyHouse$RuleReader" "tape" "LHoneyHouse$Tape;") (List.mem_of_getElem? (i := 1) rfl)) (fun _ h9 => h9) rfl dX4_readEither_72 ?_
    have hFc := free_all hD hS hA
    refine va_callv (va_runV (As := []) (rest := []) ⟨hx, hb, hml, hown, hts⟩ (a_advance l D ws_336 ty_337 tp ktp tl te_116 ya_123 (nI ts_115) bb k_136 c9_137 t_138 f_347 H.size (by omega) (by omega) e_342 e_346 u_348) (cwV 0 hts gX4_readEither_X6_advance rfl rfl rfl (by decide +kernel) ⟨Nat.le_of_ble_eq_true rfl, Nat.le_of_ble_eq_true rfl⟩) ⟨fun a U g mk q => by obtain ⟨q0, q1, qP, qK, qD⟩ := q; exact ⟨q0, q1, qP, va_K.moved (u := U) (U := U.calling g mk a) (Vm.Alike.refl U.vm) qK, qD⟩, va_recv hK hP (ci := 6) (q0 := ktp) rfl e_342, fun U hU hW => ⟨rfl, by rw [hU], by rw [hU]; exact hP, va_K.moved hW.alike hK, hD.weaken (fun _ _ _ _ => trivial)⟩⟩ rfl rfl hl.1 rfl (lv_room (Nat.le_of_ble_eq_true rfl)) dX4_readEither_75 ⟨Nat.le_of_ble_eq_true rfl, Nat.le_of_ble_eq_true rfl⟩) hS (fun q _ h => hFc q h) hFc (fun u t H1 locs ht hvm w_754 hB hz1 hk1 hS => ?_)
    obtain ⟨ws_755, ty_756, hm_757, ht_759, hP1, hK1, hD1, hx_758⟩ := hB
    rw [ht] at hP1
    have hK := va_K.moved hvm.symm hK1
    have hD := hD1.weaken (fun _ _ _ h => hFc _ h)
    generalize H1 = H at hP1 hS ⊢
    have hP := hP1
    have e_760 := hm_757.objK e_341 (by decide)
    obtain ⟨g_762, e_761, h_763⟩ := hm_757.obj e_342
    obtain ⟨z_764, z_765, z_766, z_767, rfl⟩ := smX6 h_763
    obtain ⟨f_769, e_768⟩ := hm_757.arrI e_343
    have u_770 := ht_759 _ _ u_345
    obtain ⟨f_772, e_771⟩ := hm_757.arrI e_346
    have u_773 := ht_759 _ _ u_348
    have hsm := hsm.tr (hm_757.mono (by decide))
    have hlp_93 := hlp_93.tr (hm_757.mono (by decide))
    have htx := htx.tr ht_759
    obtain ⟨k_774, s_775, e_776, h_777, h_778, h_779, e_780⟩ := hx_758
    refine lv_aload_n hx hb dX4_readEither_78 rfl (lv_at hl 5 rfl) ?_
    refine lv_iload_n hx hb dX4_readEither_79 rfl (lv_at hl 4 rfl) ?_
    have hFc := free_all hD hS hA
    refine va_calli (va_runV (As := [.int 3]) (rest := []) ⟨hx, hb, hml, hown, hts⟩ (r_readOne3 l D ws_755 ty_756 adK adV fo rd krd tp ktp cd bb tl  H.size (⟨s_775, e_776, cc_117, ra_118, rb_119, rc_120, rv_121, re_122, nI k_774, by omega, by omega, by omega, by omega, e_760, e_780, ⟨k_130, c9_131, t_132, f_769, e_768, u_770⟩, ⟨k_136, c9_137, t_138, f_772, e_771, u_773⟩⟩ : RS ws_755 ty_756 rd krd tp ktp cd bb tl)) (cwV 1 hts gX4_readEither_X4_readOne rfl rfl rfl (by decide +kernel) ⟨Nat.le_of_ble_eq_true rfl, Nat.le_of_ble_eq_true rfl⟩) ⟨fun a U g mk q => by obtain ⟨q0, q1, qP, qK, qD, qS⟩ := q; exact ⟨q0, q1, qP, va_K.moved (u := U) (U := U.calling g mk a) (Vm.Alike.refl U.vm) qK, qD, SZ.same rfl rfl qS⟩, va_recv hK hP (ci := 4) (q0 := krd) rfl e_760, fun U hU hW => ⟨rfl, by rw [hU], by rw [hU]; exact hP, va_K.moved hW.alike hK, hD.weaken (fun _ _ _ _ => trivial), hsz9.go hS hW hU hFc⟩⟩ rfl rfl hl.1 rfl (lv_room (Nat.le_of_ble_eq_true rfl)) dX4_readEither_80 ⟨Nat.le_of_ble_eq_true rfl, Nat.le_of_ble_eq_true rfl⟩) hS (fun q _ h => hFc q h) hFc (fun r_781 u t H1 locs ht hvm w_782 hB hz1 hk1 hS => ?_)
    obtain ⟨ws_783, ty_784, hm_785, ht_787, hP1, hK1, hD1, hx_786⟩ := hB
    rw [ht] at hP1
    have hK := va_K.moved hvm.symm hK1
    have hD := hD1.weaken (fun _ _ _ h => hFc _ h)
    generalize H1 = H at hP1 hS ⊢
    have hP := hP1
    obtain ⟨g_789, e_788, h_790⟩ := hm_785.obj e_760
    obtain ⟨z_791, z_792, z_793, z_794, z_795, z_796, rfl⟩ := smX4 h_790
    obtain ⟨g_798, e_797, h_799⟩ := hm_785.obj e_780
    obtain ⟨z_800, z_801, z_802, z_803, rfl⟩ := smX6 h_799
    obtain ⟨f_805, e_804⟩ := hm_785.arrI e_768
    have u_806 := ht_787 _ _ u_770
    obtain ⟨f_808, e_807⟩ := hm_785.arrI e_771
    have u_809 := ht_787 _ _ u_773
    have hsm := hsm.tr (hm_785.mono (by decide))
    have hlp_93 := hlp_93.tr (hm_785.mono (by decide))
    have htx := htx.tr ht_787
    obtain ⟨ts_810, te_811, cc_812, ra_813, rb_814, rc_815, rv_816, re_817, ya_818, h1_819, h2_820, h3_821, h4_822, er_823, et_824, ⟨k_825, c9_826, t_827, f_828, e_829, u_830⟩, ⟨k_831, c9_832, t_833, f_834, e_835, u_836⟩⟩ := id hx_786
    refine lv_istore_n (lv' := [(2, .int r_781), (3, .int 1), (5, .int 1), (4, .int (nI i_85)), (1, .int 3), (0, .ref rd)]) hx hb dX4_readEither_83 rfl hl (by decide) rfl (fun ls hl => ?_)
    refine lv_iload hx hb dX4_readEither_84 (lv_at hl 2 rfl) ?_
    refine lv_if_eq (tgt := 95) hx hb dX4_readEither_86 (by decide) (fun c_837 => absurd c_837 (by decide)) (fun c_837 => ?_)
    refine lv_aload_n hx hb dX4_readEither_89 rfl (lv_at hl 5 rfl) ?_
    refine lv_bipush (v := (-2)) hx hb dX4_readEither_90 (by decide) ?_
    have hFc := free_all hD hS hA
    refine va_callv (va_runV (As := [.int (-2)]) (rest := []) ⟨hx, hb, hml, hown, hts⟩ (r_addCode l D ws_783 ty_784 adK adV fo rd krd tp ktp cd bb tl (-2) H.size (⟨ts_810, te_811, cc_812, ra_813, rb_814, rc_815, rv_816, re_817, ya_818, by omega, by omega, by omega, by omega, er_823, et_824, ⟨k_825, c9_826, t_827, f_828, e_829, u_830⟩, ⟨k_831, c9_832, t_833, f_834, e_835, u_836⟩⟩ : RS ws_783 ty_784 rd krd tp ktp cd bb tl)) (cwV 1 hts gX4_readEither_X4_addCode rfl rfl rfl (by decide +kernel) ⟨Nat.le_of_ble_eq_true rfl, Nat.le_of_ble_eq_true rfl⟩) ⟨fun a U g mk q => by obtain ⟨q0, q1, qP, qK, qD, qS⟩ := q; exact ⟨q0, q1, qP, va_K.moved (u := U) (U := U.calling g mk a) (Vm.Alike.refl U.vm) qK, qD, SZ.same rfl rfl qS⟩, va_recv hK hP (ci := 4) (q0 := krd) rfl er_823, fun U hU hW => ⟨rfl, by rw [hU], by rw [hU]; exact hP, va_K.moved hW.alike hK, hD.weaken (fun _ _ _ _ => trivial), hsz9.go hS hW hU hFc⟩⟩ rfl rfl hl.1 rfl (lv_room (Nat.le_of_ble_eq_true rfl)) dX4_readEither_92 ⟨Nat.le_of_ble_eq_true rfl, Nat.le_of_ble_eq_true rfl⟩) hS (fun q _ h => hFc q h) hFc (fun u t H1 locs ht hvm w_839 hB hz1 hk1 hS => ?_)
    obtain ⟨ws_840, ty_841, hm_842, ht_844, hP1, hK1, hD1, hx_843⟩ := hB
    rw [ht] at hP1
    have hK := va_K.moved hvm.symm hK1
    have hD := hD1.weaken (fun _ _ _ h => hFc _ h)
    generalize H1 = H at hP1 hS ⊢
    have hP := hP1
    obtain ⟨g_846, e_845, h_847⟩ := hm_842.obj er_823
    obtain ⟨z_848, z_849, z_850, z_851, z_852, z_853, rfl⟩ := smX4 h_847
    obtain ⟨g_855, e_854, h_856⟩ := hm_842.obj et_824
    obtain ⟨z_857, z_858, z_859, z_860, rfl⟩ := smX6 h_856
    obtain ⟨f_862, e_861⟩ := hm_842.arrI e_829
    have u_863 := ht_844 _ _ u_830
    obtain ⟨f_865, e_864⟩ := hm_842.arrI e_835
    have u_866 := ht_844 _ _ u_836
    have hsm := hsm.tr (hm_842.mono (by decide))
    have hlp_93 := hlp_93.tr (hm_842.mono (by decide))
    have htx := htx.tr ht_844
    obtain ⟨ts_867, te_868, cc_869, ra_870, rb_871, rc_872, rv_873, re_874, ya_875, h1_876, h2_877, h3_878, h4_879, er_880, et_881, ⟨k_882, c9_883, t_884, f_885, e_886, u_887⟩, ⟨k_888, c9_889, t_890, f_891, e_892, u_893⟩⟩ := id hx_843
    refine lv_iinc (v := nI (i_85 + 1)) (lv' := [(4, .int (nI (i_85 + 1))), (2, .int r_781), (3, .int 1), (5, .int 1), (1, .int 3), (0, .ref rd)]) hx hb dX4_readEither_95 hl (k := 3) rfl (nI_add i_85 1) (by decide) rfl (fun ls hl => ?_)
    refine lv_goto (tgt := 11) hx hb dX4_readEither_98 (by decide) ?_
    exact ih_84 (i_85 + 1, r_781, 1) ws_840 _ _ ls (by show 400 - (i_85 + 1) < 400 - i_85; omega) ⟨hlp_93, (⟨ts_867, te_868, cc_869, ra_870, rb_871, rc_872, rv_873, re_874, ya_875, by omega, by omega, by omega, by omega, er_880, et_881, ⟨k_882, c9_883, t_884, f_885, e_886, u_887⟩, ⟨k_888, c9_889, t_890, f_891, e_892, u_893⟩⟩ : RS ws_840 ty_841 rd krd tp ktp cd bb tl), (show (i_85 + 1) ≤ 400 from by omega), (show r_781 = 0 ∨ r_781 = 1 from w_782), (show 1 = 0 ∨ 1 = 1 from Or.inr rfl)⟩ hP hD hS (lv_sub hl [0, 1, 2, 4, 5] rfl)
  refine lv_iload hx hb dX4_readEither_60 (lv_at hl 0 rfl) ?_
  refine lv_if_ne (tgt := 69) hx hb dX4_readEither_62 (by decide) (fun c_894 => ?_) (fun c_894 => absurd c_894 (by decide))
  refine lv_iconst (v := 0) hx hb dX4_readEither_69 (by decide) ?_
  refine lv_istore_n (lv' := [(3, .int 0), (5, .int 1), (4, .int (nI i_85)), (2, .int x_86), (1, .int 3), (0, .ref rd)]) hx hb dX4_readEither_70 rfl hl (by decide) rfl (fun ls hl => ?_)
  refine lv_aload_n hx hb dX4_readEither_71 rfl (lv_at hl 5 rfl) ?_
  refine va_get (D := D) (ci := 4) (v := .ref tp) (C := RX4) (T := TX4) (N := 8) hx hb hts hin4 hown hK hP krd e_341 rfl 0 (by decide) (hts (.fieldLink RX4 12 "HoneyHouse$RuleReader" "tape" "LHoneyHouse$Tape;") (List.mem_of_getElem? (i := 1) rfl)) (fun _ h9 => h9) rfl dX4_readEither_72 ?_
  have hFc := free_all hD hS hA
  refine va_callv (va_runV (As := []) (rest := []) ⟨hx, hb, hml, hown, hts⟩ (a_advance l D ws_336 ty_337 tp ktp tl te_116 ya_123 (nI ts_115) bb k_136 c9_137 t_138 f_347 H.size (by omega) (by omega) e_342 e_346 u_348) (cwV 0 hts gX4_readEither_X6_advance rfl rfl rfl (by decide +kernel) ⟨Nat.le_of_ble_eq_true rfl, Nat.le_of_ble_eq_true rfl⟩) ⟨fun a U g mk q => by obtain ⟨q0, q1, qP, qK, qD⟩ := q; exact ⟨q0, q1, qP, va_K.moved (u := U) (U := U.calling g mk a) (Vm.Alike.refl U.vm) qK, qD⟩, va_recv hK hP (ci := 6) (q0 := ktp) rfl e_342, fun U hU hW => ⟨rfl, by rw [hU], by rw [hU]; exact hP, va_K.moved hW.alike hK, hD.weaken (fun _ _ _ _ => trivial)⟩⟩ rfl rfl hl.1 rfl (lv_room (Nat.le_of_ble_eq_true rfl)) dX4_readEither_75 ⟨Nat.le_of_ble_eq_true rfl, Nat.le_of_ble_eq_true rfl⟩) hS (fun q _ h => hFc q h) hFc (fun u t H1 locs ht hvm w_896 hB hz1 hk1 hS => ?_)
  obtain ⟨ws_897, ty_898, hm_899, ht_901, hP1, hK1, hD1, hx_900⟩ := hB
  rw [ht] at hP1
  have hK := va_K.moved hvm.symm hK1
  have hD := hD1.weaken (fun _ _ _ h => hFc _ h)
  generalize H1 = H at hP1 hS ⊢
  have hP := hP1
  have e_902 := hm_899.objK e_341 (by decide)
  obtain ⟨g_904, e_903, h_905⟩ := hm_899.obj e_342
  obtain ⟨z_906, z_907, z_908, z_909, rfl⟩ := smX6 h_905
  obtain ⟨f_911, e_910⟩ := hm_899.arrI e_343
  have u_912 := ht_901 _ _ u_345
  obtain ⟨f_914, e_913⟩ := hm_899.arrI e_346
  have u_915 := ht_901 _ _ u_348
  have hsm := hsm.tr (hm_899.mono (by decide))
  have hlp_93 := hlp_93.tr (hm_899.mono (by decide))
  have htx := htx.tr ht_901
  obtain ⟨k_916, s_917, e_918, h_919, h_920, h_921, e_922⟩ := hx_900
  refine lv_aload_n hx hb dX4_readEither_78 rfl (lv_at hl 5 rfl) ?_
  refine lv_iload_n hx hb dX4_readEither_79 rfl (lv_at hl 4 rfl) ?_
  have hFc := free_all hD hS hA
  refine va_calli (va_runV (As := [.int 3]) (rest := []) ⟨hx, hb, hml, hown, hts⟩ (r_readOne3 l D ws_897 ty_898 adK adV fo rd krd tp ktp cd bb tl  H.size (⟨s_917, e_918, cc_117, ra_118, rb_119, rc_120, rv_121, re_122, nI k_916, by omega, by omega, by omega, by omega, e_902, e_922, ⟨k_130, c9_131, t_132, f_911, e_910, u_912⟩, ⟨k_136, c9_137, t_138, f_914, e_913, u_915⟩⟩ : RS ws_897 ty_898 rd krd tp ktp cd bb tl)) (cwV 1 hts gX4_readEither_X4_readOne rfl rfl rfl (by decide +kernel) ⟨Nat.le_of_ble_eq_true rfl, Nat.le_of_ble_eq_true rfl⟩) ⟨fun a U g mk q => by obtain ⟨q0, q1, qP, qK, qD, qS⟩ := q; exact ⟨q0, q1, qP, va_K.moved (u := U) (U := U.calling g mk a) (Vm.Alike.refl U.vm) qK, qD, SZ.same rfl rfl qS⟩, va_recv hK hP (ci := 4) (q0 := krd) rfl e_902, fun U hU hW => ⟨rfl, by rw [hU], by rw [hU]; exact hP, va_K.moved hW.alike hK, hD.weaken (fun _ _ _ _ => trivial), hsz9.go hS hW hU hFc⟩⟩ rfl rfl hl.1 rfl (lv_room (Nat.le_of_ble_eq_true rfl)) dX4_readEither_80 ⟨Nat.le_of_ble_eq_true rfl, Nat.le_of_ble_eq_true rfl⟩) hS (fun q _ h => hFc q h) hFc (fun r_923 u t H1 locs ht hvm w_924 hB hz1 hk1 hS => ?_)
  obtain ⟨ws_925, ty_926, hm_927, ht_929, hP1, hK1, hD1, hx_928⟩ := hB
  rw [ht] at hP1
  have hK := va_K.moved hvm.symm hK1
  have hD := hD1.weaken (fun _ _ _ h => hFc _ h)
  generalize H1 = H at hP1 hS ⊢
  have hP := hP1
  obtain ⟨g_931, e_930, h_932⟩ := hm_927.obj e_902
  obtain ⟨z_933, z_934, z_935, z_936, z_937, z_938, rfl⟩ := smX4 h_932
  obtain ⟨g_940, e_939, h_941⟩ := hm_927.obj e_922
  obtain ⟨z_942, z_943, z_944, z_945, rfl⟩ := smX6 h_941
  obtain ⟨f_947, e_946⟩ := hm_927.arrI e_910
  have u_948 := ht_929 _ _ u_912
  obtain ⟨f_950, e_949⟩ := hm_927.arrI e_913
  have u_951 := ht_929 _ _ u_915
  have hsm := hsm.tr (hm_927.mono (by decide))
  have hlp_93 := hlp_93.tr (hm_927.mono (by decide))
  have htx := htx.tr ht_929
  obtain ⟨ts_952, te_953, cc_954, ra_955, rb_956, rc_957, rv_958, re_959, ya_960, h1_961, h2_962, h3_963, h4_964, er_965, et_966, ⟨k_967, c9_968, t_969, f_970, e_971, u_972⟩, ⟨k_973, c9_974, t_975, f_976, e_977, u_978⟩⟩ := id hx_928
  refine lv_istore_n (lv' := [(2, .int r_923), (3, .int 0), (5, .int 1), (4, .int (nI i_85)), (1, .int 3), (0, .ref rd)]) hx hb dX4_readEither_83 rfl hl (by decide) rfl (fun ls hl => ?_)
  refine lv_iload hx hb dX4_readEither_84 (lv_at hl 2 rfl) ?_
  refine lv_if_eq (tgt := 95) hx hb dX4_readEither_86 (by decide) (fun c_979 => absurd c_979 (by decide)) (fun c_979 => ?_)
  refine lv_aload_n hx hb dX4_readEither_89 rfl (lv_at hl 5 rfl) ?_
  refine lv_bipush (v := (-2)) hx hb dX4_readEither_90 (by decide) ?_
  have hFc := free_all hD hS hA
  refine va_callv (va_runV (As := [.int (-2)]) (rest := []) ⟨hx, hb, hml, hown, hts⟩ (r_addCode l D ws_925 ty_926 adK adV fo rd krd tp ktp cd bb tl (-2) H.size (⟨ts_952, te_953, cc_954, ra_955, rb_956, rc_957, rv_958, re_959, ya_960, by omega, by omega, by omega, by omega, er_965, et_966, ⟨k_967, c9_968, t_969, f_970, e_971, u_972⟩, ⟨k_973, c9_974, t_975, f_976, e_977, u_978⟩⟩ : RS ws_925 ty_926 rd krd tp ktp cd bb tl)) (cwV 1 hts gX4_readEither_X4_addCode rfl rfl rfl (by decide +kernel) ⟨Nat.le_of_ble_eq_true rfl, Nat.le_of_ble_eq_true rfl⟩) ⟨fun a U g mk q => by obtain ⟨q0, q1, qP, qK, qD, qS⟩ := q; exact ⟨q0, q1, qP, va_K.moved (u := U) (U := U.calling g mk a) (Vm.Alike.refl U.vm) qK, qD, SZ.same rfl rfl qS⟩, va_recv hK hP (ci := 4) (q0 := krd) rfl er_965, fun U hU hW => ⟨rfl, by rw [hU], by rw [hU]; exact hP, va_K.moved hW.alike hK, hD.weaken (fun _ _ _ _ => trivial), hsz9.go hS hW hU hFc⟩⟩ rfl rfl hl.1 rfl (lv_room (Nat.le_of_ble_eq_true rfl)) dX4_readEither_92 ⟨Nat.le_of_ble_eq_true rfl, Nat.le_of_ble_eq_true rfl⟩) hS (fun q _ h => hFc q h) hFc (fun u t H1 locs ht hvm w_981 hB hz1 hk1 hS => ?_)
  obtain ⟨ws_982, ty_983, hm_984, ht_986, hP1, hK1, hD1, hx_985⟩ := hB
  rw [ht] at hP1
  have hK := va_K.moved hvm.symm hK1
  have hD := hD1.weaken (fun _ _ _ h => hFc _ h)
  generalize H1 = H at hP1 hS ⊢
  have hP := hP1
  obtain ⟨g_988, e_987, h_989⟩ := hm_984.obj er_965
  obtain ⟨z_990, z_991, z_992, z_993, z_994, z_995, rfl⟩ := smX4 h_989
  obtain ⟨g_997, e_996, h_998⟩ := hm_984.obj et_966
  obtain ⟨z_999, z_1000, z_1001, z_1002, rfl⟩ := smX6 h_998
  obtain ⟨f_1004, e_1003⟩ := hm_984.arrI e_971
  have u_1005 := ht_986 _ _ u_972
  obtain ⟨f_1007, e_1006⟩ := hm_984.arrI e_977
  have u_1008 := ht_986 _ _ u_978
  have hsm := hsm.tr (hm_984.mono (by decide))
  have hlp_93 := hlp_93.tr (hm_984.mono (by decide))
  have htx := htx.tr ht_986
  obtain ⟨ts_1009, te_1010, cc_1011, ra_1012, rb_1013, rc_1014, rv_1015, re_1016, ya_1017, h1_1018, h2_1019, h3_1020, h4_1021, er_1022, et_1023, ⟨k_1024, c9_1025, t_1026, f_1027, e_1028, u_1029⟩, ⟨k_1030, c9_1031, t_1032, f_1033, e_1034, u_1035⟩⟩ := id hx_985
  refine lv_iinc (v := nI (i_85 + 1)) (lv' := [(4, .int (nI (i_85 + 1))), (2, .int r_923), (3, .int 0), (5, .int 1), (1, .int 3), (0, .ref rd)]) hx hb dX4_readEither_95 hl (k := 3) rfl (nI_add i_85 1) (by decide) rfl (fun ls hl => ?_)
  refine lv_goto (tgt := 11) hx hb dX4_readEither_98 (by decide) ?_
  exact ih_84 (i_85 + 1, r_923, 0) ws_982 _ _ ls (by show 400 - (i_85 + 1) < 400 - i_85; omega) ⟨hlp_93, (⟨ts_1009, te_1010, cc_1011, ra_1012, rb_1013, rc_1014, rv_1015, re_1016, ya_1017, by omega, by omega, by omega, by omega, er_1022, et_1023, ⟨k_1024, c9_1025, t_1026, f_1027, e_1028, u_1029⟩, ⟨k_1030, c9_1031, t_1032, f_1033, e_1034, u_1035⟩⟩ : RS ws_982 ty_983 rd krd tp ktp cd bb tl), (show (i_85 + 1) ≤ 400 from by omega), (show r_923 = 0 ∨ r_923 = 1 from w_924), (show 0 = 0 ∨ 0 = 1 from Or.inl rfl)⟩ hP hD hS (lv_sub hl [0, 1, 2, 4, 5] rfl)
set_option maxHeartbeats 4000000 in
set_option maxRecDepth 100000 in
theorem r_readOne2 (l : Launch) (D : va_G) (ws : va_W) (tys : List (ClassId × FieldType)) (adK adV : Nat → Nat) (fo : Option Nat) (rd krd tp ktp cd bb tl : Nat)  (sz : Nat) (R0 : RS ws tys rd krd tp ktp cd bb tl)  : Met l yX4_readOne wsX4_readOne ({ frames := 15, cells := 0, slots := 0, locals := 341 }) (va_Pc [.ref rd, .int 2] (fun U => U.heap.size = sz ∧ va_P D vwCl ws U.heap ∧ va_K D vwCl tys U ∧ va_D (fun _ => True) ws ∧ SZ adK adV fo (va_A ws sz) U U.heap)) (va_Qi (fun (r : Int32) (_ : Unit) => r = 0 ∨ r = 1) (fun (_ : Unit) (t : State) => ∃ (ws' : va_W) (tys' : List (ClassId × FieldType)), sm [4, 6] ws ws' ∧ tyx tys tys' ∧ va_P D vwCl ws' t.heap ∧ va_K D vwCl tys' t ∧ va_D (va_A ws sz) ws' ∧ RS ws' tys' rd krd tp ktp cd bb tl) (va_A ws sz)) 0 0 (va_A ws sz) := by
  refine Met.ofW (cc := cX4_readOne) (maxL := 4) (ret := (some .boolean)) (by decide) rfl ?_
  intro p e s m args below meth c s₁ B hml hv
  obtain ⟨rfl, hsz, hP, hK, hD0, hsz9⟩ := hv
  have hx := B.exec
  have hb := B.bytes
  have hr := B.returns
  have hts := atoms_spec (ws := wsX4_readOne) B.pre
  have hown : s.vm.findClass RX4 = some m.cls := findClass_of_methodNamed B.named
  have hlocks := B.notSynchronized
  subst hsz
  have hD := hD0.self (sz := s.heap.size)
  generalize hAe : va_A ws s.heap.size = A at hD hsz9 ⊢
  have hA : ∀ q : Nat, s.heap.size ≤ q → A q := fun q h => by rw [← hAe]; exact Or.inr h
  have hS : va_S A s.heap s.heap [] := va_S.rf
  have hsm : sm [4, 6] ws ws := sm.rf ws
  have htx : tyx tys tys := tyx.rf tys
  have hin4 : ∀ w ∈ u_ws RX4 TX4 8, w ∈ wsX4_readOne := (fun _ h9 => List.mem_cons_of_mem _ (List.mem_append_left _ ((List.mem_append_right _ h9))))
  have hl := lv_entry ([.ref rd, .int 2]) (n := 4) (Nat.le_of_ble_eq_true rfl)
  rw [lg_entry_eq]
  generalize (lg_sl ([.ref rd, .int 2]) ++ List.replicate (4 - (lg_sl ([.ref rd, .int 2])).length) Slot.unset).toArray = ls at hl ⊢
  have hl : lv_has ls 4 [(0, .ref rd), (1, .int 2)] := hl
  obtain ⟨ts_1, te_2, cc_3, ra_4, rb_5, rc_6, rv_7, re_8, ya_9, h1_10, h2_11, h3_12, h4_13, er_14, et_15, ⟨k_16, c9_17, t_18, f_19, e_20, u_21⟩, ⟨k_22, c9_23, t_24, f_25, e_26, u_27⟩⟩ := id R0
  refine lv_aload_n hx hb dX4_readOne_0 rfl (lv_at hl 0 rfl) ?_
  refine va_get (D := D) (ci := 4) (v := .ref tp) (C := RX4) (T := TX4) (N := 8) hx hb hts hin4 hown hK hP krd er_14 rfl 0 (by decide) (hts (.fieldLink RX4 12 "HoneyHouse$RuleReader" "tape" "LHoneyHouse$Tape;") (List.mem_of_getElem? (i := 1) rfl)) (fun _ h9 => h9) rfl dX4_readOne_1 ?_
  refine va_ldcS hx hb hown hsz9.2.2.2.2.2.2.1 dX4_readOne_4 ?_
  have hFc := free_all hD hS hA
  refine va_calli (va_runV (As := [.ref (adK 3)]) (rest := []) ⟨hx, hb, hml, hown, hts⟩ (a_isWord l D ws tys adK adV fo 3 tp ktp tl ya_9 (nI ts_1) (nI te_2) bb k_22 c9_23 t_24 f_25 s.heap.size (by decide) et_15 e_26 u_27) (cwV 1 hts gX4_readOne_X6_isWord rfl rfl rfl (by decide +kernel) ⟨Nat.le_of_ble_eq_true rfl, Nat.le_of_ble_eq_true rfl⟩) ⟨fun a U g mk q => by obtain ⟨q0, q1, qP, qK, qD, qS⟩ := q; exact ⟨q0, q1, qP, va_K.moved (u := U) (U := U.calling g mk a) (Vm.Alike.refl U.vm) qK, qD, SZ.same rfl rfl qS⟩, va_recv hK hP (ci := 6) (q0 := ktp) rfl et_15, fun U hU hW => ⟨rfl, by rw [hU], by rw [hU]; exact hP, va_K.moved hW.alike hK, hD.weaken (fun _ _ _ _ => trivial), hsz9.go hS hW hU hFc⟩⟩ rfl rfl hl.1 rfl (lv_room (Nat.le_of_ble_eq_true rfl)) dX4_readOne_6 ⟨Nat.le_of_ble_eq_true rfl, Nat.le_of_ble_eq_true rfl⟩) hS (fun q _ h => hFc q h) hFc (fun r_28 u t H1 locs ht hvm w_29 hB hz1 hk1 hS => ?_)
  obtain ⟨ws_30, ty_31, hm_32, ht_34, hP1, hK1, hD1, hx_33⟩ := hB
  rw [ht] at hP1
  have hK := va_K.moved hvm.symm hK1
  have hD := hD1.weaken (fun _ _ _ h => hFc _ h)
  generalize H1 = H at hP1 hS ⊢
  have hP := hP1
  have e_35 := hm_32.objK er_14 (by decide)
  have e_36 := hm_32.objK et_15 (by decide)
  obtain ⟨f_38, e_37⟩ := hm_32.arrI e_20
  have u_39 := ht_34 _ _ u_21
  obtain ⟨f_41, e_40⟩ := hm_32.arrI e_26
  have u_42 := ht_34 _ _ u_27
  have hsm := hsm.tr (hm_32.mono (by decide))
  have htx := htx.tr ht_34
  rcases w_29 with rfl | rfl
  · refine lv_istore_n (lv' := [(2, .int 0), (0, .ref rd), (1, .int 2)]) hx hb dX4_readOne_9 rfl hl (by decide) rfl (fun ls hl => ?_)
    refine lv_iload_n hx hb dX4_readOne_10 rfl (lv_at hl 0 rfl) ?_
    refine lv_if_ne (tgt := 31) hx hb dX4_readOne_11 (by decide) (fun c_43 => absurd (by decide) c_43) (fun c_43 => ?_)
    refine lv_aload_n hx hb dX4_readOne_14 rfl (lv_at hl 1 rfl) ?_
    refine va_get (D := D) (ci := 4) (v := .ref tp) (C := RX4) (T := TX4) (N := 8) hx hb hts hin4 hown hK hP krd e_35 rfl 0 (by decide) (hts (.fieldLink RX4 12 "HoneyHouse$RuleReader" "tape" "LHoneyHouse$Tape;") (List.mem_of_getElem? (i := 1) rfl)) (fun _ h9 => h9) rfl dX4_readOne_15 ?_
    refine lv_bipush (v := 40) hx hb dX4_readOne_18 (by decide) ?_
    refine vp_callSi (W.runV (As := [.int 40]) (rest := []) ⟨hx, hb, hml, hown, hts⟩ (s_isByte l D ws_30 ty_31 tp ktp tl ya_9 (nI ts_1) (nI te_2) bb k_22 c9_23 t_24 f_41 40 e_36 e_40 u_42) (cwV 1 hts gX4_readOne_X6_isByte rfl rfl rfl (by decide +kernel) ⟨Nat.le_of_ble_eq_true rfl, Nat.le_of_ble_eq_true rfl⟩) ⟨fun a U g mk q => ⟨q.1, q.2.1, va_K.moved (u := U) (U := U.calling g mk a) (Vm.Alike.refl U.vm) q.2.2⟩, va_recv hK hP (ci := 6) (q0 := ktp) rfl e_36, fun U hU hW => ⟨rfl, by rw [hU]; exact hP, va_K.moved hW.alike hK⟩⟩ rfl rfl hl.1 rfl (lv_room (Nat.le_of_ble_eq_true rfl)) dX4_readOne_20 ⟨Nat.le_of_ble_eq_true rfl, Nat.le_of_ble_eq_true rfl⟩) (fun r_44 k_45 => ?_)
    rcases k_45 with rfl | rfl
    · refine lv_if_ne (tgt := 31) hx hb dX4_readOne_23 (by decide) (fun c_46 => absurd (by decide) c_46) (fun c_46 => ?_)
      refine lv_aload_n hx hb dX4_readOne_26 rfl (lv_at hl 1 rfl) ?_
      have hFc := free_all hD hS hA
      refine va_calli (va_runV (As := []) (rest := []) ⟨hx, hb, hml, hown, hts⟩ (r_readTest l D ws_30 ty_31 adK adV fo rd krd tp ktp cd bb tl  H.size (⟨ts_1, te_2, cc_3, ra_4, rb_5, rc_6, rv_7, re_8, ya_9, by omega, by omega, by omega, by omega, e_35, e_36, ⟨k_16, c9_17, t_18, f_38, e_37, u_39⟩, ⟨k_22, c9_23, t_24, f_41, e_40, u_42⟩⟩ : RS ws_30 ty_31 rd krd tp ktp cd bb tl)) (cwV 0 hts gX4_readOne_X4_readTest rfl rfl rfl (by decide +kernel) ⟨Nat.le_of_ble_eq_true rfl, Nat.le_of_ble_eq_true rfl⟩) ⟨fun a U g mk q => by obtain ⟨q0, q1, qP, qK, qD, qS⟩ := q; exact ⟨q0, q1, qP, va_K.moved (u := U) (U := U.calling g mk a) (Vm.Alike.refl U.vm) qK, qD, SZ.same rfl rfl qS⟩, va_recv hK hP (ci := 4) (q0 := krd) rfl e_35, fun U hU hW => ⟨rfl, by rw [hU], by rw [hU]; exact hP, va_K.moved hW.alike hK, hD.weaken (fun _ _ _ _ => trivial), hsz9.go hS hW hU hFc⟩⟩ rfl rfl hl.1 rfl (lv_room (Nat.le_of_ble_eq_true rfl)) dX4_readOne_27 ⟨Nat.le_of_ble_eq_true rfl, Nat.le_of_ble_eq_true rfl⟩) hS (fun q _ h => hFc q h) hFc (fun r_47 u t H1 locs ht hvm w_48 hB hz1 hk1 hS => ?_)
      obtain ⟨ws_49, ty_50, hm_51, ht_53, hP1, hK1, hD1, hx_52⟩ := hB
      rw [ht] at hP1
      have hK := va_K.moved hvm.symm hK1
      have hD := hD1.weaken (fun _ _ _ h => hFc _ h)
      generalize H1 = H at hP1 hS ⊢
      have hP := hP1
      obtain ⟨g_55, e_54, h_56⟩ := hm_51.obj e_35
      obtain ⟨z_57, z_58, z_59, z_60, z_61, z_62, rfl⟩ := smX4 h_56
      obtain ⟨g_64, e_63, h_65⟩ := hm_51.obj e_36
      obtain ⟨z_66, z_67, z_68, z_69, rfl⟩ := smX6 h_65
      obtain ⟨f_71, e_70⟩ := hm_51.arrI e_37
      have u_72 := ht_53 _ _ u_39
      obtain ⟨f_74, e_73⟩ := hm_51.arrI e_40
      have u_75 := ht_53 _ _ u_42
      have hsm := hsm.tr (hm_51.mono (by decide))
      have htx := htx.tr ht_53
      obtain ⟨ts_76, te_77, cc_78, ra_79, rb_80, rc_81, rv_82, re_83, ya_84, h1_85, h2_86, h3_87, h4_88, er_89, et_90, ⟨k_91, c9_92, t_93, f_94, e_95, u_96⟩, ⟨k_97, c9_98, t_99, f_100, e_101, u_102⟩⟩ := id hx_52
      exact W.zret (v := r_47) hx hb hr (by rcases w_48 with h9 | h9 <;> rw [h9] <;> rfl) (fun t ht hW => ⟨⟨r_47, (), rfl, w_48, ws_49, ty_50, hsm, htx, by rw [ht]; exact hP, va_K.moved hW.alike hK, hD, (⟨ts_76, te_77, cc_78, ra_79, rb_80, rc_81, rv_82, re_83, ya_84, by omega, by omega, by omega, by omega, er_89, et_90, ⟨k_91, c9_92, t_93, f_94, e_95, u_96⟩, ⟨k_97, c9_98, t_99, f_100, e_101, u_102⟩⟩ : RS ws_49 ty_50 rd krd tp ktp cd bb tl)⟩, hS.F ht⟩) hS.2.2 dX4_readOne_30
    refine lv_if_ne (tgt := 31) hx hb dX4_readOne_23 (by decide) (fun c_103 => ?_) (fun c_103 => absurd c_103 (by decide))
    refine lv_iload_n hx hb dX4_readOne_31 rfl (lv_at hl 2 rfl) ?_
    refine lv_bipush (v := 6) hx hb dX4_readOne_32 (by decide) ?_
    refine lv_icmp_lt (tgt := 50) hx hb dX4_readOne_34 (by decide) (fun c_104 => ?_) (fun c_104 => absurd (by decide) c_104)
    refine lv_aload_n hx hb dX4_readOne_50 rfl (lv_at hl 1 rfl) ?_
    refine va_get (D := D) (ci := 4) (v := .ref tp) (C := RX4) (T := TX4) (N := 8) hx hb hts hin4 hown hK hP krd e_35 rfl 0 (by decide) (hts (.fieldLink RX4 12 "HoneyHouse$RuleReader" "tape" "LHoneyHouse$Tape;") (List.mem_of_getElem? (i := 1) rfl)) (fun _ h9 => h9) rfl dX4_readOne_51 ?_
    have hFc := free_all hD hS hA
    refine va_callv (va_runV (As := []) (rest := []) ⟨hx, hb, hml, hown, hts⟩ (a_advance l D ws_30 ty_31 tp ktp tl te_2 ya_9 (nI ts_1) bb k_22 c9_23 t_24 f_41 H.size (by omega) (by omega) e_36 e_40 u_42) (cwV 0 hts gX4_readOne_X6_advance rfl rfl rfl (by decide +kernel) ⟨Nat.le_of_ble_eq_true rfl, Nat.le_of_ble_eq_true rfl⟩) ⟨fun a U g mk q => by obtain ⟨q0, q1, qP, qK, qD⟩ := q; exact ⟨q0, q1, qP, va_K.moved (u := U) (U := U.calling g mk a) (Vm.Alike.refl U.vm) qK, qD⟩, va_recv hK hP (ci := 6) (q0 := ktp) rfl e_36, fun U hU hW => ⟨rfl, by rw [hU], by rw [hU]; exact hP, va_K.moved hW.alike hK, hD.weaken (fun _ _ _ _ => trivial)⟩⟩ rfl rfl hl.1 rfl (lv_room (Nat.le_of_ble_eq_true rfl)) dX4_readOne_54 ⟨Nat.le_of_ble_eq_true rfl, Nat.le_of_ble_eq_true rfl⟩) hS (fun q _ h => hFc q h) hFc (fun u t H1 locs ht hvm w_106 hB hz1 hk1 hS => ?_)
    obtain ⟨ws_107, ty_108, hm_109, ht_111, hP1, hK1, hD1, hx_110⟩ := hB
    rw [ht] at hP1
    have hK := va_K.moved hvm.symm hK1
    have hD := hD1.weaken (fun _ _ _ h => hFc _ h)
    generalize H1 = H at hP1 hS ⊢
    have hP := hP1
    have e_112 := hm_109.objK e_35 (by decide)
    obtain ⟨g_114, e_113, h_115⟩ := hm_109.obj e_36
    obtain ⟨z_116, z_117, z_118, z_119, rfl⟩ := smX6 h_115
    obtain ⟨f_121, e_120⟩ := hm_109.arrI e_37
    have u_122 := ht_111 _ _ u_39
    obtain ⟨f_124, e_123⟩ := hm_109.arrI e_40
    have u_125 := ht_111 _ _ u_42
    have hsm := hsm.tr (hm_109.mono (by decide))
    have htx := htx.tr ht_111
    obtain ⟨k_126, s_127, e_128, h_129, h_130, h_131, e_132⟩ := hx_110
    refine lv_iload_n hx hb dX4_readOne_57 rfl (lv_at hl 0 rfl) ?_
    refine lv_if_ne (tgt := 86) hx hb dX4_readOne_58 (by decide) (fun c_133 => absurd (by decide) c_133) (fun c_133 => ?_)
    refine lv_aload_n hx hb dX4_readOne_61 rfl (lv_at hl 1 rfl) ?_
    refine lv_iload_n hx hb dX4_readOne_62 rfl (lv_at hl 2 rfl) ?_
    refine lv_iconst (v := 1) hx hb dX4_readOne_63 (by decide) ?_
    refine lv_iadd hx hb dX4_readOne_64 ?_
    refine tp_i (y := 3) (by decide) ?_
    have hFc := free_all hD hS hA
    refine va_calli (va_runV (As := [.int 3]) (rest := []) ⟨hx, hb, hml, hown, hts⟩ (r_readEither3 l D ws_107 ty_108 adK adV fo rd krd tp ktp cd bb tl  H.size (⟨s_127, e_128, cc_3, ra_4, rb_5, rc_6, rv_7, re_8, nI k_126, by omega, by omega, by omega, by omega, e_112, e_132, ⟨k_16, c9_17, t_18, f_121, e_120, u_122⟩, ⟨k_22, c9_23, t_24, f_124, e_123, u_125⟩⟩ : RS ws_107 ty_108 rd krd tp ktp cd bb tl)) (cwV 1 hts gX4_readOne_X4_readEither rfl rfl rfl (by decide +kernel) ⟨Nat.le_of_ble_eq_true rfl, Nat.le_of_ble_eq_true rfl⟩) ⟨fun a U g mk q => by obtain ⟨q0, q1, qP, qK, qD, qS⟩ := q; exact ⟨q0, q1, qP, va_K.moved (u := U) (U := U.calling g mk a) (Vm.Alike.refl U.vm) qK, qD, SZ.same rfl rfl qS⟩, va_recv hK hP (ci := 4) (q0 := krd) rfl e_112, fun U hU hW => ⟨rfl, by rw [hU], by rw [hU]; exact hP, va_K.moved hW.alike hK, hD.weaken (fun _ _ _ _ => trivial), hsz9.go hS hW hU hFc⟩⟩ rfl rfl hl.1 rfl (lv_room (Nat.le_of_ble_eq_true rfl)) dX4_readOne_65 ⟨Nat.le_of_ble_eq_true rfl, Nat.le_of_ble_eq_true rfl⟩) hS (fun q _ h => hFc q h) hFc (fun r_134 u t H1 locs ht hvm w_135 hB hz1 hk1 hS => ?_)
    obtain ⟨ws_136, ty_137, hm_138, ht_140, hP1, hK1, hD1, hx_139⟩ := hB
    rw [ht] at hP1
    have hK := va_K.moved hvm.symm hK1
    have hD := hD1.weaken (fun _ _ _ h => hFc _ h)
    generalize H1 = H at hP1 hS ⊢
    have hP := hP1
    obtain ⟨g_142, e_141, h_143⟩ := hm_138.obj e_112
    obtain ⟨z_144, z_145, z_146, z_147, z_148, z_149, rfl⟩ := smX4 h_143
    obtain ⟨g_151, e_150, h_152⟩ := hm_138.obj e_132
    obtain ⟨z_153, z_154, z_155, z_156, rfl⟩ := smX6 h_152
    obtain ⟨f_158, e_157⟩ := hm_138.arrI e_120
    have u_159 := ht_140 _ _ u_122
    obtain ⟨f_161, e_160⟩ := hm_138.arrI e_123
    have u_162 := ht_140 _ _ u_125
    have hsm := hsm.tr (hm_138.mono (by decide))
    have htx := htx.tr ht_140
    obtain ⟨ts_163, te_164, cc_165, ra_166, rb_167, rc_168, rv_169, re_170, ya_171, h1_172, h2_173, h3_174, h4_175, er_176, et_177, ⟨k_178, c9_179, t_180, f_181, e_182, u_183⟩, ⟨k_184, c9_185, t_186, f_187, e_188, u_189⟩⟩ := id hx_139
    refine lv_if_eq (tgt := 84) hx hb dX4_readOne_68 (by decide) (fun c_190 => ?_) (fun c_190 => ?_)
    · refine lv_iconst (v := 0) hx hb dX4_readOne_84 (by decide) ?_
      exact W.zret (v := 0) hx hb hr rfl (fun t ht hW => ⟨⟨0, (), rfl, Or.inl rfl, ws_136, ty_137, hsm, htx, by rw [ht]; exact hP, va_K.moved hW.alike hK, hD, (⟨ts_163, te_164, cc_165, ra_166, rb_167, rc_168, rv_169, re_170, ya_171, by omega, by omega, by omega, by omega, er_176, et_177, ⟨k_178, c9_179, t_180, f_181, e_182, u_183⟩, ⟨k_184, c9_185, t_186, f_187, e_188, u_189⟩⟩ : RS ws_136 ty_137 rd krd tp ktp cd bb tl)⟩, hS.F ht⟩) hS.2.2 dX4_readOne_85
    refine lv_aload_n hx hb dX4_readOne_71 rfl (lv_at hl 1 rfl) ?_
    refine lv_bipush (v := 41) hx hb dX4_readOne_72 (by decide) ?_
    have hFc := free_all hD hS hA
    refine va_calli (va_runV (As := [.int 41]) (rest := []) ⟨hx, hb, hml, hown, hts⟩ (r_readByte l D ws_136 ty_137 adK adV fo rd krd tp ktp cd bb tl 41 H.size (⟨ts_163, te_164, cc_165, ra_166, rb_167, rc_168, rv_169, re_170, ya_171, by omega, by omega, by omega, by omega, er_176, et_177, ⟨k_178, c9_179, t_180, f_181, e_182, u_183⟩, ⟨k_184, c9_185, t_186, f_187, e_188, u_189⟩⟩ : RS ws_136 ty_137 rd krd tp ktp cd bb tl)) (cwV 1 hts gX4_readOne_X4_readByte rfl rfl rfl (by decide +kernel) ⟨Nat.le_of_ble_eq_true rfl, Nat.le_of_ble_eq_true rfl⟩) ⟨fun a U g mk q => by obtain ⟨q0, q1, qP, qK, qD, qS⟩ := q; exact ⟨q0, q1, qP, va_K.moved (u := U) (U := U.calling g mk a) (Vm.Alike.refl U.vm) qK, qD, SZ.same rfl rfl qS⟩, va_recv hK hP (ci := 4) (q0 := krd) rfl er_176, fun U hU hW => ⟨rfl, by rw [hU], by rw [hU]; exact hP, va_K.moved hW.alike hK, hD.weaken (fun _ _ _ _ => trivial), hsz9.go hS hW hU hFc⟩⟩ rfl rfl hl.1 rfl (lv_room (Nat.le_of_ble_eq_true rfl)) dX4_readOne_74 ⟨Nat.le_of_ble_eq_true rfl, Nat.le_of_ble_eq_true rfl⟩) hS (fun q _ h => hFc q h) hFc (fun r_191 u t H1 locs ht hvm w_192 hB hz1 hk1 hS => ?_)
    obtain ⟨ws_193, ty_194, hm_195, ht_197, hP1, hK1, hD1, hx_196⟩ := hB
    rw [ht] at hP1
    have hK := va_K.moved hvm.symm hK1
    have hD := hD1.weaken (fun _ _ _ h => hFc _ h)
    generalize H1 = H at hP1 hS ⊢
    have hP := hP1
    obtain ⟨g_199, e_198, h_200⟩ := hm_195.obj er_176
    obtain ⟨z_201, z_202, z_203, z_204, z_205, z_206, rfl⟩ := smX4 h_200
    obtain ⟨g_208, e_207, h_209⟩ := hm_195.obj et_177
    obtain ⟨z_210, z_211, z_212, z_213, rfl⟩ := smX6 h_209
    obtain ⟨f_215, e_214⟩ := hm_195.arrI e_182
    have u_216 := ht_197 _ _ u_183
    obtain ⟨f_218, e_217⟩ := hm_195.arrI e_188
    have u_219 := ht_197 _ _ u_189
    have hsm := hsm.tr (hm_195.mono (by decide))
    have htx := htx.tr ht_197
    obtain ⟨ts_220, te_221, cc_222, ra_223, rb_224, rc_225, rv_226, re_227, ya_228, h1_229, h2_230, h3_231, h4_232, er_233, et_234, ⟨k_235, c9_236, t_237, f_238, e_239, u_240⟩, ⟨k_241, c9_242, t_243, f_244, e_245, u_246⟩⟩ := id hx_196
    rcases w_192 with rfl | rfl
    · refine lv_if_eq (tgt := 84) hx hb dX4_readOne_77 (by decide) (fun c_247 => ?_) (fun c_247 => absurd (by decide) c_247)
      refine lv_iconst (v := 0) hx hb dX4_readOne_84 (by decide) ?_
      exact W.zret (v := 0) hx hb hr rfl (fun t ht hW => ⟨⟨0, (), rfl, Or.inl rfl, ws_193, ty_194, hsm, htx, by rw [ht]; exact hP, va_K.moved hW.alike hK, hD, (⟨ts_220, te_221, cc_222, ra_223, rb_224, rc_225, rv_226, re_227, ya_228, by omega, by omega, by omega, by omega, er_233, et_234, ⟨k_235, c9_236, t_237, f_238, e_239, u_240⟩, ⟨k_241, c9_242, t_243, f_244, e_245, u_246⟩⟩ : RS ws_193 ty_194 rd krd tp ktp cd bb tl)⟩, hS.F ht⟩) hS.2.2 dX4_readOne_85
    refine lv_if_eq (tgt := 84) hx hb dX4_readOne_77 (by decide) (fun c_248 => absurd c_248 (by decide)) (fun c_248 => ?_)
    refine lv_iconst (v := 1) hx hb dX4_readOne_80 (by decide) ?_
    refine lv_goto (tgt := 85) hx hb dX4_readOne_81 (by decide) ?_
    exact W.zret (v := 1) hx hb hr rfl (fun t ht hW => ⟨⟨1, (), rfl, Or.inr rfl, ws_193, ty_194, hsm, htx, by rw [ht]; exact hP, va_K.moved hW.alike hK, hD, (⟨ts_220, te_221, cc_222, ra_223, rb_224, rc_225, rv_226, re_227, ya_228, by omega, by omega, by omega, by omega, er_233, et_234, ⟨k_235, c9_236, t_237, f_238, e_239, u_240⟩, ⟨k_241, c9_242, t_243, f_244, e_245, u_246⟩⟩ : RS ws_193 ty_194 rd krd tp ktp cd bb tl)⟩, hS.F ht⟩) hS.2.2 dX4_readOne_85
  refine lv_istore_n (lv' := [(2, .int 1), (0, .ref rd), (1, .int 2)]) hx hb dX4_readOne_9 rfl hl (by decide) rfl (fun ls hl => ?_)
  refine lv_iload_n hx hb dX4_readOne_10 rfl (lv_at hl 0 rfl) ?_
  refine lv_if_ne (tgt := 31) hx hb dX4_readOne_11 (by decide) (fun c_249 => ?_) (fun c_249 => absurd c_249 (by decide))
  refine lv_iload_n hx hb dX4_readOne_31 rfl (lv_at hl 2 rfl) ?_
  refine lv_bipush (v := 6) hx hb dX4_readOne_32 (by decide) ?_
  refine lv_icmp_lt (tgt := 50) hx hb dX4_readOne_34 (by decide) (fun c_250 => ?_) (fun c_250 => absurd (by decide) c_250)
  refine lv_aload_n hx hb dX4_readOne_50 rfl (lv_at hl 1 rfl) ?_
  refine va_get (D := D) (ci := 4) (v := .ref tp) (C := RX4) (T := TX4) (N := 8) hx hb hts hin4 hown hK hP krd e_35 rfl 0 (by decide) (hts (.fieldLink RX4 12 "HoneyHouse$RuleReader" "tape" "LHoneyHouse$Tape;") (List.mem_of_getElem? (i := 1) rfl)) (fun _ h9 => h9) rfl dX4_readOne_51 ?_
  have hFc := free_all hD hS hA
  refine va_callv (va_runV (As := []) (rest := []) ⟨hx, hb, hml, hown, hts⟩ (a_advance l D ws_30 ty_31 tp ktp tl te_2 ya_9 (nI ts_1) bb k_22 c9_23 t_24 f_41 H.size (by omega) (by omega) e_36 e_40 u_42) (cwV 0 hts gX4_readOne_X6_advance rfl rfl rfl (by decide +kernel) ⟨Nat.le_of_ble_eq_true rfl, Nat.le_of_ble_eq_true rfl⟩) ⟨fun a U g mk q => by obtain ⟨q0, q1, qP, qK, qD⟩ := q; exact ⟨q0, q1, qP, va_K.moved (u := U) (U := U.calling g mk a) (Vm.Alike.refl U.vm) qK, qD⟩, va_recv hK hP (ci := 6) (q0 := ktp) rfl e_36, fun U hU hW => ⟨rfl, by rw [hU], by rw [hU]; exact hP, va_K.moved hW.alike hK, hD.weaken (fun _ _ _ _ => trivial)⟩⟩ rfl rfl hl.1 rfl (lv_room (Nat.le_of_ble_eq_true rfl)) dX4_readOne_54 ⟨Nat.le_of_ble_eq_true rfl, Nat.le_of_ble_eq_true rfl⟩) hS (fun q _ h => hFc q h) hFc (fun u t H1 locs ht hvm w_252 hB hz1 hk1 hS => ?_)
  obtain ⟨ws_253, ty_254, hm_255, ht_257, hP1, hK1, hD1, hx_256⟩ := hB
  rw [ht] at hP1
  have hK := va_K.moved hvm.symm hK1
  have hD := hD1.weaken (fun _ _ _ h => hFc _ h)
  generalize H1 = H at hP1 hS ⊢
  have hP := hP1
  have e_258 := hm_255.objK e_35 (by decide)
  obtain ⟨g_260, e_259, h_261⟩ := hm_255.obj e_36
  obtain ⟨z_262, z_263, z_264, z_265, rfl⟩ := smX6 h_261
  obtain ⟨f_267, e_266⟩ := hm_255.arrI e_37
  have u_268 := ht_257 _ _ u_39
  obtain ⟨f_270, e_269⟩ := hm_255.arrI e_40
  have u_271 := ht_257 _ _ u_42
  have hsm := hsm.tr (hm_255.mono (by decide))
  have htx := htx.tr ht_257
  obtain ⟨k_272, s_273, e_274, h_275, h_276, h_277, e_278⟩ := hx_256
  refine lv_iload_n hx hb dX4_readOne_57 rfl (lv_at hl 0 rfl) ?_
  refine lv_if_ne (tgt := 86) hx hb dX4_readOne_58 (by decide) (fun c_279 => ?_) (fun c_279 => absurd c_279 (by decide))
  refine lv_aload_n hx hb dX4_readOne_86 rfl (lv_at hl 1 rfl) ?_
  refine lv_iload_n hx hb dX4_readOne_87 rfl (lv_at hl 2 rfl) ?_
  refine lv_iconst (v := 1) hx hb dX4_readOne_88 (by decide) ?_
  refine lv_iadd hx hb dX4_readOne_89 ?_
  refine tp_i (y := 3) (by decide) ?_
  have hFc := free_all hD hS hA
  refine va_calli (va_runV (As := [.int 3]) (rest := []) ⟨hx, hb, hml, hown, hts⟩ (r_readOne3 l D ws_253 ty_254 adK adV fo rd krd tp ktp cd bb tl  H.size (⟨s_273, e_274, cc_3, ra_4, rb_5, rc_6, rv_7, re_8, nI k_272, by omega, by omega, by omega, by omega, e_258, e_278, ⟨k_16, c9_17, t_18, f_267, e_266, u_268⟩, ⟨k_22, c9_23, t_24, f_270, e_269, u_271⟩⟩ : RS ws_253 ty_254 rd krd tp ktp cd bb tl)) (cwV 1 hts gX4_readOne_X4_readOne rfl rfl rfl (by decide +kernel) ⟨Nat.le_of_ble_eq_true rfl, Nat.le_of_ble_eq_true rfl⟩) ⟨fun a U g mk q => by obtain ⟨q0, q1, qP, qK, qD, qS⟩ := q; exact ⟨q0, q1, qP, va_K.moved (u := U) (U := U.calling g mk a) (Vm.Alike.refl U.vm) qK, qD, SZ.same rfl rfl qS⟩, va_recv hK hP (ci := 4) (q0 := krd) rfl e_258, fun U hU hW => ⟨rfl, by rw [hU], by rw [hU]; exact hP, va_K.moved hW.alike hK, hD.weaken (fun _ _ _ _ => trivial), hsz9.go hS hW hU hFc⟩⟩ rfl rfl hl.1 rfl (lv_room (Nat.le_of_ble_eq_true rfl)) dX4_readOne_90 ⟨Nat.le_of_ble_eq_true rfl, Nat.le_of_ble_eq_true rfl⟩) hS (fun q _ h => hFc q h) hFc (fun r_280 u t H1 locs ht hvm w_281 hB hz1 hk1 hS => ?_)
  obtain ⟨ws_282, ty_283, hm_284, ht_286, hP1, hK1, hD1, hx_285⟩ := hB
  rw [ht] at hP1
  have hK := va_K.moved hvm.symm hK1
  have hD := hD1.weaken (fun _ _ _ h => hFc _ h)
  generalize H1 = H at hP1 hS ⊢
  have hP := hP1
  obtain ⟨g_288, e_287, h_289⟩ := hm_284.obj e_258
  obtain ⟨z_290, z_291, z_292, z_293, z_294, z_295, rfl⟩ := smX4 h_289
  obtain ⟨g_297, e_296, h_298⟩ := hm_284.obj e_278
  obtain ⟨z_299, z_300, z_301, z_302, rfl⟩ := smX6 h_298
  obtain ⟨f_304, e_303⟩ := hm_284.arrI e_266
  have u_305 := ht_286 _ _ u_268
  obtain ⟨f_307, e_306⟩ := hm_284.arrI e_269
  have u_308 := ht_286 _ _ u_271
  have hsm := hsm.tr (hm_284.mono (by decide))
  have htx := htx.tr ht_286
  obtain ⟨ts_309, te_310, cc_311, ra_312, rb_313, rc_314, rv_315, re_316, ya_317, h1_318, h2_319, h3_320, h4_321, er_322, et_323, ⟨k_324, c9_325, t_326, f_327, e_328, u_329⟩, ⟨k_330, c9_331, t_332, f_333, e_334, u_335⟩⟩ := id hx_285
  refine lv_istore_n (lv' := [(3, .int r_280), (2, .int 1), (0, .ref rd), (1, .int 2)]) hx hb dX4_readOne_93 rfl hl (by decide) rfl (fun ls hl => ?_)
  refine lv_aload_n hx hb dX4_readOne_94 rfl (lv_at hl 2 rfl) ?_
  refine lv_iconst (v := (-1)) hx hb dX4_readOne_95 (by decide) ?_
  have hFc := free_all hD hS hA
  refine va_callv (va_runV (As := [.int (-1)]) (rest := []) ⟨hx, hb, hml, hown, hts⟩ (r_addCode l D ws_282 ty_283 adK adV fo rd krd tp ktp cd bb tl (-1) H.size (⟨ts_309, te_310, cc_311, ra_312, rb_313, rc_314, rv_315, re_316, ya_317, by omega, by omega, by omega, by omega, er_322, et_323, ⟨k_324, c9_325, t_326, f_327, e_328, u_329⟩, ⟨k_330, c9_331, t_332, f_333, e_334, u_335⟩⟩ : RS ws_282 ty_283 rd krd tp ktp cd bb tl)) (cwV 1 hts gX4_readOne_X4_addCode rfl rfl rfl (by decide +kernel) ⟨Nat.le_of_ble_eq_true rfl, Nat.le_of_ble_eq_true rfl⟩) ⟨fun a U g mk q => by obtain ⟨q0, q1, qP, qK, qD, qS⟩ := q; exact ⟨q0, q1, qP, va_K.moved (u := U) (U := U.calling g mk a) (Vm.Alike.refl U.vm) qK, qD, SZ.same rfl rfl qS⟩, va_recv hK hP (ci := 4) (q0 := krd) rfl er_322, fun U hU hW => ⟨rfl, by rw [hU], by rw [hU]; exact hP, va_K.moved hW.alike hK, hD.weaken (fun _ _ _ _ => trivial), hsz9.go hS hW hU hFc⟩⟩ rfl rfl hl.1 rfl (lv_room (Nat.le_of_ble_eq_true rfl)) dX4_readOne_96 ⟨Nat.le_of_ble_eq_true rfl, Nat.le_of_ble_eq_true rfl⟩) hS (fun q _ h => hFc q h) hFc (fun u t H1 locs ht hvm w_337 hB hz1 hk1 hS => ?_)
  obtain ⟨ws_338, ty_339, hm_340, ht_342, hP1, hK1, hD1, hx_341⟩ := hB
  rw [ht] at hP1
  have hK := va_K.moved hvm.symm hK1
  have hD := hD1.weaken (fun _ _ _ h => hFc _ h)
  generalize H1 = H at hP1 hS ⊢
  have hP := hP1
  obtain ⟨g_344, e_343, h_345⟩ := hm_340.obj er_322
  obtain ⟨z_346, z_347, z_348, z_349, z_350, z_351, rfl⟩ := smX4 h_345
  obtain ⟨g_353, e_352, h_354⟩ := hm_340.obj et_323
  obtain ⟨z_355, z_356, z_357, z_358, rfl⟩ := smX6 h_354
  obtain ⟨f_360, e_359⟩ := hm_340.arrI e_328
  have u_361 := ht_342 _ _ u_329
  obtain ⟨f_363, e_362⟩ := hm_340.arrI e_334
  have u_364 := ht_342 _ _ u_335
  have hsm := hsm.tr (hm_340.mono (by decide))
  have htx := htx.tr ht_342
  obtain ⟨ts_365, te_366, cc_367, ra_368, rb_369, rc_370, rv_371, re_372, ya_373, h1_374, h2_375, h3_376, h4_377, er_378, et_379, ⟨k_380, c9_381, t_382, f_383, e_384, u_385⟩, ⟨k_386, c9_387, t_388, f_389, e_390, u_391⟩⟩ := id hx_341
  refine lv_iload_n hx hb dX4_readOne_99 rfl (lv_at hl 0 rfl) ?_
  exact W.zret (v := r_280) hx hb hr (by rcases w_281 with h9 | h9 <;> rw [h9] <;> rfl) (fun t ht hW => ⟨⟨r_280, (), rfl, w_281, ws_338, ty_339, hsm, htx, by rw [ht]; exact hP, va_K.moved hW.alike hK, hD, (⟨ts_365, te_366, cc_367, ra_368, rb_369, rc_370, rv_371, re_372, ya_373, by omega, by omega, by omega, by omega, er_378, et_379, ⟨k_380, c9_381, t_382, f_383, e_384, u_385⟩, ⟨k_386, c9_387, t_388, f_389, e_390, u_391⟩⟩ : RS ws_338 ty_339 rd krd tp ktp cd bb tl)⟩, hS.F ht⟩) hS.2.2 dX4_readOne_100
set_option maxHeartbeats 4000000 in
set_option maxRecDepth 100000 in
theorem r_readEither2 (l : Launch) (D : va_G) (ws : va_W) (tys : List (ClassId × FieldType)) (adK adV : Nat → Nat) (fo : Option Nat) (rd krd tp ktp cd bb tl : Nat)  (sz : Nat) (R0 : RS ws tys rd krd tp ktp cd bb tl)  : Met l yX4_readEither wsX4_readEither ({ frames := 16, cells := 0, slots := 0, locals := 364 }) (va_Pc [.ref rd, .int 2] (fun U => U.heap.size = sz ∧ va_P D vwCl ws U.heap ∧ va_K D vwCl tys U ∧ va_D (fun _ => True) ws ∧ SZ adK adV fo (va_A ws sz) U U.heap)) (va_Qi (fun (r : Int32) (_ : Unit) => r = 0 ∨ r = 1) (fun (_ : Unit) (t : State) => ∃ (ws' : va_W) (tys' : List (ClassId × FieldType)), sm [4, 6] ws ws' ∧ tyx tys tys' ∧ va_P D vwCl ws' t.heap ∧ va_K D vwCl tys' t ∧ va_D (va_A ws sz) ws' ∧ RS ws' tys' rd krd tp ktp cd bb tl) (va_A ws sz)) 0 0 (va_A ws sz) := by
  refine Met.ofW (cc := cX4_readEither) (maxL := 6) (ret := (some .boolean)) (by decide) rfl ?_
  intro p e s m args below meth c s₁ B hml hv
  obtain ⟨rfl, hsz, hP, hK, hD0, hsz9⟩ := hv
  have hx := B.exec
  have hb := B.bytes
  have hr := B.returns
  have hts := atoms_spec (ws := wsX4_readEither) B.pre
  have hown : s.vm.findClass RX4 = some m.cls := findClass_of_methodNamed B.named
  have hlocks := B.notSynchronized
  subst hsz
  have hD := hD0.self (sz := s.heap.size)
  generalize hAe : va_A ws s.heap.size = A at hD hsz9 ⊢
  have hA : ∀ q : Nat, s.heap.size ≤ q → A q := fun q h => by rw [← hAe]; exact Or.inr h
  have hS : va_S A s.heap s.heap [] := va_S.rf
  have hsm : sm [4, 6] ws ws := sm.rf ws
  have htx : tyx tys tys := tyx.rf tys
  have hin4 : ∀ w ∈ u_ws RX4 TX4 8, w ∈ wsX4_readEither := (fun _ h9 => List.mem_cons_of_mem _ (List.mem_append_left _ ((List.mem_append_right _ h9))))
  have hl := lv_entry ([.ref rd, .int 2]) (n := 6) (Nat.le_of_ble_eq_true rfl)
  rw [lg_entry_eq]
  generalize (lg_sl ([.ref rd, .int 2]) ++ List.replicate (6 - (lg_sl ([.ref rd, .int 2])).length) Slot.unset).toArray = ls at hl ⊢
  have hl : lv_has ls 6 [(0, .ref rd), (1, .int 2)] := hl
  obtain ⟨ts_1, te_2, cc_3, ra_4, rb_5, rc_6, rv_7, re_8, ya_9, h1_10, h2_11, h3_12, h4_13, er_14, et_15, ⟨k_16, c9_17, t_18, f_19, e_20, u_21⟩, ⟨k_22, c9_23, t_24, f_25, e_26, u_27⟩⟩ := id R0
  refine lv_aload_n hx hb dX4_readEither_0 rfl (lv_at hl 0 rfl) ?_
  refine lv_iload_n hx hb dX4_readEither_1 rfl (lv_at hl 1 rfl) ?_
  have hFc := free_all hD hS hA
  refine va_calli (va_runV (As := [.int 2]) (rest := []) ⟨hx, hb, hml, hown, hts⟩ (r_readOne2 l D ws tys adK adV fo rd krd tp ktp cd bb tl  s.heap.size (⟨ts_1, te_2, cc_3, ra_4, rb_5, rc_6, rv_7, re_8, ya_9, by omega, by omega, by omega, by omega, er_14, et_15, ⟨k_16, c9_17, t_18, f_19, e_20, u_21⟩, ⟨k_22, c9_23, t_24, f_25, e_26, u_27⟩⟩ : RS ws tys rd krd tp ktp cd bb tl)) (cwV 1 hts gX4_readEither_X4_readOne rfl rfl rfl (by decide +kernel) ⟨Nat.le_of_ble_eq_true rfl, Nat.le_of_ble_eq_true rfl⟩) ⟨fun a U g mk q => by obtain ⟨q0, q1, qP, qK, qD, qS⟩ := q; exact ⟨q0, q1, qP, va_K.moved (u := U) (U := U.calling g mk a) (Vm.Alike.refl U.vm) qK, qD, SZ.same rfl rfl qS⟩, va_recv hK hP (ci := 4) (q0 := krd) rfl er_14, fun U hU hW => ⟨rfl, by rw [hU], by rw [hU]; exact hP, va_K.moved hW.alike hK, hD.weaken (fun _ _ _ _ => trivial), hsz9.go hS hW hU hFc⟩⟩ rfl rfl hl.1 rfl (lv_room (Nat.le_of_ble_eq_true rfl)) dX4_readEither_2 ⟨Nat.le_of_ble_eq_true rfl, Nat.le_of_ble_eq_true rfl⟩) hS (fun q _ h => hFc q h) hFc (fun r_28 u t H1 locs ht hvm w_29 hB hz1 hk1 hS => ?_)
  obtain ⟨ws_30, ty_31, hm_32, ht_34, hP1, hK1, hD1, hx_33⟩ := hB
  rw [ht] at hP1
  have hK := va_K.moved hvm.symm hK1
  have hD := hD1.weaken (fun _ _ _ h => hFc _ h)
  generalize H1 = H at hP1 hS ⊢
  have hP := hP1
  obtain ⟨g_36, e_35, h_37⟩ := hm_32.obj er_14
  obtain ⟨z_38, z_39, z_40, z_41, z_42, z_43, rfl⟩ := smX4 h_37
  obtain ⟨g_45, e_44, h_46⟩ := hm_32.obj et_15
  obtain ⟨z_47, z_48, z_49, z_50, rfl⟩ := smX6 h_46
  obtain ⟨f_52, e_51⟩ := hm_32.arrI e_20
  have u_53 := ht_34 _ _ u_21
  obtain ⟨f_55, e_54⟩ := hm_32.arrI e_26
  have u_56 := ht_34 _ _ u_27
  have hsm := hsm.tr (hm_32.mono (by decide))
  have htx := htx.tr ht_34
  obtain ⟨ts_57, te_58, cc_59, ra_60, rb_61, rc_62, rv_63, re_64, ya_65, h1_66, h2_67, h3_68, h4_69, er_70, et_71, ⟨k_72, c9_73, t_74, f_75, e_76, u_77⟩, ⟨k_78, c9_79, t_80, f_81, e_82, u_83⟩⟩ := id hx_33
  refine lv_istore_n (lv' := [(2, .int r_28), (0, .ref rd), (1, .int 2)]) hx hb dX4_readEither_5 rfl hl (by decide) rfl (fun ls hl => ?_)
  refine lv_iconst (v := 0) hx hb dX4_readEither_6 (by decide) ?_
  refine lv_istore_n (lv' := [(3, .int 0), (2, .int r_28), (0, .ref rd), (1, .int 2)]) hx hb dX4_readEither_7 rfl hl (by decide) rfl (fun ls hl => ?_)
  refine lv_iconst (v := 0) hx hb dX4_readEither_8 (by decide) ?_
  refine lv_istore (lv' := [(4, .int 0), (3, .int 0), (2, .int r_28), (0, .ref rd), (1, .int 2)]) hx hb dX4_readEither_9 hl (by decide) rfl (fun ls hl => ?_)
  refine lp_V (nL := 6) (σ := Nat × Int32 × Int32) (lv := fun x9 => [(4, .int (nI x9.1)), (2, .int x9.2.1), (3, .int x9.2.2), (1, .int 2), (0, .ref rd)]) (μ := fun x9 => 400 - x9.1) (J := fun x9 ws9 => sm [4, 6] ws_30 ws9 ∧ (RS ws9 ty_31 rd krd tp ktp cd bb tl) ∧ (x9.1 ≤ 400) ∧ (x9.2.1 = 0 ∨ x9.2.1 = 1) ∧ (x9.2.2 = 0 ∨ x9.2.2 = 1)) (fun x9 ws_91 H locs ls hj hP hD hS hl ih_84 => ?_) (0, r_28, 0) ws_30 _ _ ls ⟨sm.rf _, (⟨ts_57, te_58, cc_59, ra_60, rb_61, rc_62, rv_63, re_64, ya_65, by omega, by omega, by omega, by omega, er_70, et_71, ⟨k_72, c9_73, t_74, f_75, e_76, u_77⟩, ⟨k_78, c9_79, t_80, f_81, e_82, u_83⟩⟩ : RS ws_30 ty_31 rd krd tp ktp cd bb tl), (show 0 ≤ 400 from by omega), (show r_28 = 0 ∨ r_28 = 1 from w_29), (show 0 = 0 ∨ 0 = 1 from Or.inl rfl)⟩ hP hD hS (lv_sub hl [0, 2, 1, 4, 3] rfl)
  obtain ⟨i_85, x_86, y_87⟩ := x9
  have hj : sm [4, 6] ws_30 ws_91 ∧ (RS ws_91 ty_31 rd krd tp ktp cd bb tl) ∧ (i_85 ≤ 400) ∧ (x_86 = 0 ∨ x_86 = 1) ∧ (y_87 = 0 ∨ y_87 = 1) := hj
  obtain ⟨hm_92, hR_94, hi_88, hbx_89, hby_90⟩ := hj
  obtain ⟨g_96, e_95, h_97⟩ := hm_92.obj er_70
  obtain ⟨z_98, z_99, z_100, z_101, z_102, z_103, rfl⟩ := smX4 h_97
  obtain ⟨g_105, e_104, h_106⟩ := hm_92.obj et_71
  obtain ⟨z_107, z_108, z_109, z_110, rfl⟩ := smX6 h_106
  obtain ⟨f_112, e_111⟩ := hm_92.arrI e_76
  obtain ⟨f_114, e_113⟩ := hm_92.arrI e_82
  have hsm := hsm.tr (hm_92.mono (by decide))
  obtain ⟨ts_115, te_116, cc_117, ra_118, rb_119, rc_120, rv_121, re_122, ya_123, h1_124, h2_125, h3_126, h4_127, er_128, et_129, ⟨k_130, c9_131, t_132, f_133, e_134, u_135⟩, ⟨k_136, c9_137, t_138, f_139, e_140, u_141⟩⟩ := id hR_94
  have hlp_93 := hm_92
  have hl : lv_has ls 6 [(4, .int (nI i_85)), (2, .int x_86), (3, .int y_87), (1, .int 2), (0, .ref rd)] := hl
  refine lv_iload hx hb dX4_readEither_11 (lv_at hl 0 rfl) ?_
  refine lv_sipush (v := 400) hx hb dX4_readEither_13 (by decide) ?_
  refine lv_icmp_ge (tgt := 101) hx hb dX4_readEither_16 (by decide) (fun c_142 => ?_) (fun c_142 => ?_)
  · have d_143 := n_le (a := 400) (b := i_85) (by omega) (by omega) c_142
    refine lv_iload_n hx hb dX4_readEither_101 rfl (lv_at hl 2 rfl) ?_
    refine lv_if_eq (tgt := 111) hx hb dX4_readEither_102 (by decide) (fun c_144 => ?_) (fun c_144 => ?_)
    · refine lv_iload_n hx hb dX4_readEither_111 rfl (lv_at hl 1 rfl) ?_
      exact W.zret (v := x_86) hx hb hr (by rcases hbx_89 with h9 | h9 <;> rw [h9] <;> rfl) (fun t ht hW => ⟨⟨x_86, (), rfl, hbx_89, ws_91, ty_31, hsm, htx, by rw [ht]; exact hP, va_K.moved hW.alike hK, hD, (⟨ts_115, te_116, cc_117, ra_118, rb_119, rc_120, rv_121, re_122, ya_123, by omega, by omega, by omega, by omega, er_128, et_129, ⟨k_130, c9_131, t_132, f_133, e_134, u_135⟩, ⟨k_136, c9_137, t_138, f_139, e_140, u_141⟩⟩ : RS ws_91 ty_31 rd krd tp ktp cd bb tl)⟩, hS.F ht⟩) hS.2.2 dX4_readEither_112
    refine lv_aload_n hx hb dX4_readEither_105 rfl (lv_at hl 4 rfl) ?_
    refine lv_bipush (v := (-3)) hx hb dX4_readEither_106 (by decide) ?_
    have hFc := free_all hD hS hA
    refine va_callv (va_runV (As := [.int (-3)]) (rest := []) ⟨hx, hb, hml, hown, hts⟩ (r_addCode l D ws_91 ty_31 adK adV fo rd krd tp ktp cd bb tl (-3) H.size (⟨ts_115, te_116, cc_117, ra_118, rb_119, rc_120, rv_121, re_122, ya_123, by omega, by omega, by omega, by omega, er_128, et_129, ⟨k_130, c9_131, t_132, f_133, e_134, u_135⟩, ⟨k_136, c9_137, t_138, f_139, e_140, u_141⟩⟩ : RS ws_91 ty_31 rd krd tp ktp cd bb tl)) (cwV 1 hts gX4_readEither_X4_addCode rfl rfl rfl (by decide +kernel) ⟨Nat.le_of_ble_eq_true rfl, Nat.le_of_ble_eq_true rfl⟩) ⟨fun a U g mk q => by obtain ⟨q0, q1, qP, qK, qD, qS⟩ := q; exact ⟨q0, q1, qP, va_K.moved (u := U) (U := U.calling g mk a) (Vm.Alike.refl U.vm) qK, qD, SZ.same rfl rfl qS⟩, va_recv hK hP (ci := 4) (q0 := krd) rfl er_128, fun U hU hW => ⟨rfl, by rw [hU], by rw [hU]; exact hP, va_K.moved hW.alike hK, hD.weaken (fun _ _ _ _ => trivial), hsz9.go hS hW hU hFc⟩⟩ rfl rfl hl.1 rfl (lv_room (Nat.le_of_ble_eq_true rfl)) dX4_readEither_108 ⟨Nat.le_of_ble_eq_true rfl, Nat.le_of_ble_eq_true rfl⟩) hS (fun q _ h => hFc q h) hFc (fun u t H1 locs ht hvm w_146 hB hz1 hk1 hS => ?_)
    obtain ⟨ws_147, ty_148, hm_149, ht_151, hP1, hK1, hD1, hx_150⟩ := hB
    rw [ht] at hP1
    have hK := va_K.moved hvm.symm hK1
    have hD := hD1.weaken (fun _ _ _ h => hFc _ h)
    generalize H1 = H at hP1 hS ⊢
    have hP := hP1
    obtain ⟨g_153, e_152, h_154⟩ := hm_149.obj er_128
    obtain ⟨z_155, z_156, z_157, z_158, z_159, z_160, rfl⟩ := smX4 h_154
    obtain ⟨g_162, e_161, h_163⟩ := hm_149.obj et_129
    obtain ⟨z_164, z_165, z_166, z_167, rfl⟩ := smX6 h_163
    obtain ⟨f_169, e_168⟩ := hm_149.arrI e_134
    have u_170 := ht_151 _ _ u_135
    obtain ⟨f_172, e_171⟩ := hm_149.arrI e_140
    have u_173 := ht_151 _ _ u_141
    have hsm := hsm.tr (hm_149.mono (by decide))
    have hlp_93 := hlp_93.tr (hm_149.mono (by decide))
    have htx := htx.tr ht_151
    obtain ⟨ts_174, te_175, cc_176, ra_177, rb_178, rc_179, rv_180, re_181, ya_182, h1_183, h2_184, h3_185, h4_186, er_187, et_188, ⟨k_189, c9_190, t_191, f_192, e_193, u_194⟩, ⟨k_195, c9_196, t_197, f_198, e_199, u_200⟩⟩ := id hx_150
    refine lv_iload_n hx hb dX4_readEither_111 rfl (lv_at hl 1 rfl) ?_
    exact W.zret (v := x_86) hx hb hr (by rcases hbx_89 with h9 | h9 <;> rw [h9] <;> rfl) (fun t ht hW => ⟨⟨x_86, (), rfl, hbx_89, ws_147, ty_148, hsm, htx, by rw [ht]; exact hP, va_K.moved hW.alike hK, hD, (⟨ts_174, te_175, cc_176, ra_177, rb_178, rc_179, rv_180, re_181, ya_182, by omega, by omega, by omega, by omega, er_187, et_188, ⟨k_189, c9_190, t_191, f_192, e_193, u_194⟩, ⟨k_195, c9_196, t_197, f_198, e_199, u_200⟩⟩ : RS ws_147 ty_148 rd krd tp ktp cd bb tl)⟩, hS.F ht⟩) hS.2.2 dX4_readEither_112
  have d_201 := n_nle (a := 400) (b := i_85) (by omega) (by omega) c_142
  refine lv_iload_n hx hb dX4_readEither_19 rfl (lv_at hl 1 rfl) ?_
  refine lv_if_eq (tgt := 101) hx hb dX4_readEither_20 (by decide) (fun c_202 => ?_) (fun c_202 => ?_)
  · refine lv_iload_n hx hb dX4_readEither_101 rfl (lv_at hl 2 rfl) ?_
    refine lv_if_eq (tgt := 111) hx hb dX4_readEither_102 (by decide) (fun c_203 => ?_) (fun c_203 => ?_)
    · refine lv_iload_n hx hb dX4_readEither_111 rfl (lv_at hl 1 rfl) ?_
      exact W.zret (v := x_86) hx hb hr (by rcases hbx_89 with h9 | h9 <;> rw [h9] <;> rfl) (fun t ht hW => ⟨⟨x_86, (), rfl, hbx_89, ws_91, ty_31, hsm, htx, by rw [ht]; exact hP, va_K.moved hW.alike hK, hD, (⟨ts_115, te_116, cc_117, ra_118, rb_119, rc_120, rv_121, re_122, ya_123, by omega, by omega, by omega, by omega, er_128, et_129, ⟨k_130, c9_131, t_132, f_133, e_134, u_135⟩, ⟨k_136, c9_137, t_138, f_139, e_140, u_141⟩⟩ : RS ws_91 ty_31 rd krd tp ktp cd bb tl)⟩, hS.F ht⟩) hS.2.2 dX4_readEither_112
    refine lv_aload_n hx hb dX4_readEither_105 rfl (lv_at hl 4 rfl) ?_
    refine lv_bipush (v := (-3)) hx hb dX4_readEither_106 (by decide) ?_
    have hFc := free_all hD hS hA
    refine va_callv (va_runV (As := [.int (-3)]) (rest := []) ⟨hx, hb, hml, hown, hts⟩ (r_addCode l D ws_91 ty_31 adK adV fo rd krd tp ktp cd bb tl (-3) H.size (⟨ts_115, te_116, cc_117, ra_118, rb_119, rc_120, rv_121, re_122, ya_123, by omega, by omega, by omega, by omega, er_128, et_129, ⟨k_130, c9_131, t_132, f_133, e_134, u_135⟩, ⟨k_136, c9_137, t_138, f_139, e_140, u_141⟩⟩ : RS ws_91 ty_31 rd krd tp ktp cd bb tl)) (cwV 1 hts gX4_readEither_X4_addCode rfl rfl rfl (by decide +kernel) ⟨Nat.le_of_ble_eq_true rfl, Nat.le_of_ble_eq_true rfl⟩) ⟨fun a U g mk q => by obtain ⟨q0, q1, qP, qK, qD, qS⟩ := q; exact ⟨q0, q1, qP, va_K.moved (u := U) (U := U.calling g mk a) (Vm.Alike.refl U.vm) qK, qD, SZ.same rfl rfl qS⟩, va_recv hK hP (ci := 4) (q0 := krd) rfl er_128, fun U hU hW => ⟨rfl, by rw [hU], by rw [hU]; exact hP, va_K.moved hW.alike hK, hD.weaken (fun _ _ _ _ => trivial), hsz9.go hS hW hU hFc⟩⟩ rfl rfl hl.1 rfl (lv_room (Nat.le_of_ble_eq_true rfl)) dX4_readEither_108 ⟨Nat.le_of_ble_eq_true rfl, Nat.le_of_ble_eq_true rfl⟩) hS (fun q _ h => hFc q h) hFc (fun u t H1 locs ht hvm w_205 hB hz1 hk1 hS => ?_)
    obtain ⟨ws_206, ty_207, hm_208, ht_210, hP1, hK1, hD1, hx_209⟩ := hB
    rw [ht] at hP1
    have hK := va_K.moved hvm.symm hK1
    have hD := hD1.weaken (fun _ _ _ h => hFc _ h)
    generalize H1 = H at hP1 hS ⊢
    have hP := hP1
    obtain ⟨g_212, e_211, h_213⟩ := hm_208.obj er_128
    obtain ⟨z_214, z_215, z_216, z_217, z_218, z_219, rfl⟩ := smX4 h_213
    obtain ⟨g_221, e_220, h_222⟩ := hm_208.obj et_129
    obtain ⟨z_223, z_224, z_225, z_226, rfl⟩ := smX6 h_222
    obtain ⟨f_228, e_227⟩ := hm_208.arrI e_134
    have u_229 := ht_210 _ _ u_135
    obtain ⟨f_231, e_230⟩ := hm_208.arrI e_140
    have u_232 := ht_210 _ _ u_141
    have hsm := hsm.tr (hm_208.mono (by decide))
    have hlp_93 := hlp_93.tr (hm_208.mono (by decide))
    have htx := htx.tr ht_210
    obtain ⟨ts_233, te_234, cc_235, ra_236, rb_237, rc_238, rv_239, re_240, ya_241, h1_242, h2_243, h3_244, h4_245, er_246, et_247, ⟨k_248, c9_249, t_250, f_251, e_252, u_253⟩, ⟨k_254, c9_255, t_256, f_257, e_258, u_259⟩⟩ := id hx_209
    refine lv_iload_n hx hb dX4_readEither_111 rfl (lv_at hl 1 rfl) ?_
    exact W.zret (v := x_86) hx hb hr (by rcases hbx_89 with h9 | h9 <;> rw [h9] <;> rfl) (fun t ht hW => ⟨⟨x_86, (), rfl, hbx_89, ws_206, ty_207, hsm, htx, by rw [ht]; exact hP, va_K.moved hW.alike hK, hD, (⟨ts_233, te_234, cc_235, ra_236, rb_237, rc_238, rv_239, re_240, ya_241, by omega, by omega, by omega, by omega, er_246, et_247, ⟨k_248, c9_249, t_250, f_251, e_252, u_253⟩, ⟨k_254, c9_255, t_256, f_257, e_258, u_259⟩⟩ : RS ws_206 ty_207 rd krd tp ktp cd bb tl)⟩, hS.F ht⟩) hS.2.2 dX4_readEither_112
  refine lv_aload_n hx hb dX4_readEither_23 rfl (lv_at hl 4 rfl) ?_
  have hFc := free_all hD hS hA
  refine va_calli (va_runV (As := []) (rest := []) ⟨hx, hb, hml, hown, hts⟩ (r_isAndOr l D ws_91 ty_31 adK adV fo rd krd tp ktp cd bb tl  H.size (⟨ts_115, te_116, cc_117, ra_118, rb_119, rc_120, rv_121, re_122, ya_123, by omega, by omega, by omega, by omega, er_128, et_129, ⟨k_130, c9_131, t_132, f_133, e_134, u_135⟩, ⟨k_136, c9_137, t_138, f_139, e_140, u_141⟩⟩ : RS ws_91 ty_31 rd krd tp ktp cd bb tl)) (cwV 0 hts gX4_readEither_X4_isAndOr rfl rfl rfl (by decide +kernel) ⟨Nat.le_of_ble_eq_true rfl, Nat.le_of_ble_eq_true rfl⟩) ⟨fun a U g mk q => by obtain ⟨q0, q1, qP, qK, qD, qS⟩ := q; exact ⟨q0, q1, qP, va_K.moved (u := U) (U := U.calling g mk a) (Vm.Alike.refl U.vm) qK, qD, SZ.same rfl rfl qS⟩, va_recv hK hP (ci := 4) (q0 := krd) rfl er_128, fun U hU hW => ⟨rfl, by rw [hU], by rw [hU]; exact hP, va_K.moved hW.alike hK, hD.weaken (fun _ _ _ _ => trivial), hsz9.go hS hW hU hFc⟩⟩ rfl rfl hl.1 rfl (lv_room (Nat.le_of_ble_eq_true rfl)) dX4_readEither_24 ⟨Nat.le_of_ble_eq_true rfl, Nat.le_of_ble_eq_true rfl⟩) hS (fun q _ h => hFc q h) hFc (fun r_260 u t H1 locs ht hvm w_261 hB hz1 hk1 hS => ?_)
  obtain ⟨ws_262, ty_263, hm_264, ht_266, hP1, hK1, hD1, hx_265⟩ := hB
  rw [ht] at hP1
  have hK := va_K.moved hvm.symm hK1
  have hD := hD1.weaken (fun _ _ _ h => hFc _ h)
  generalize H1 = H at hP1 hS ⊢
  have hP := hP1
  have e_267 := hm_264.objK er_128 (by decide)
  have e_268 := hm_264.objK et_129 (by decide)
  obtain ⟨f_270, e_269⟩ := hm_264.arrI e_134
  have u_271 := ht_266 _ _ u_135
  obtain ⟨f_273, e_272⟩ := hm_264.arrI e_140
  have u_274 := ht_266 _ _ u_141
  have hsm := hsm.tr (hm_264.mono (by decide))
  have hlp_93 := hlp_93.tr (hm_264.mono (by decide))
  have htx := htx.tr ht_266
  rcases w_261 with rfl | rfl
  · refine lv_if_eq (tgt := 101) hx hb dX4_readEither_27 (by decide) (fun c_275 => ?_) (fun c_275 => absurd (by decide) c_275)
    refine lv_iload_n hx hb dX4_readEither_101 rfl (lv_at hl 2 rfl) ?_
    refine lv_if_eq (tgt := 111) hx hb dX4_readEither_102 (by decide) (fun c_276 => ?_) (fun c_276 => ?_)
    · refine lv_iload_n hx hb dX4_readEither_111 rfl (lv_at hl 1 rfl) ?_
      exact W.zret (v := x_86) hx hb hr (by rcases hbx_89 with h9 | h9 <;> rw [h9] <;> rfl) (fun t ht hW => ⟨⟨x_86, (), rfl, hbx_89, ws_262, ty_263, hsm, htx, by rw [ht]; exact hP, va_K.moved hW.alike hK, hD, (⟨ts_115, te_116, cc_117, ra_118, rb_119, rc_120, rv_121, re_122, ya_123, by omega, by omega, by omega, by omega, e_267, e_268, ⟨k_130, c9_131, t_132, f_270, e_269, u_271⟩, ⟨k_136, c9_137, t_138, f_273, e_272, u_274⟩⟩ : RS ws_262 ty_263 rd krd tp ktp cd bb tl)⟩, hS.F ht⟩) hS.2.2 dX4_readEither_112
    refine lv_aload_n hx hb dX4_readEither_105 rfl (lv_at hl 4 rfl) ?_
    refine lv_bipush (v := (-3)) hx hb dX4_readEither_106 (by decide) ?_
    have hFc := free_all hD hS hA
    refine va_callv (va_runV (As := [.int (-3)]) (rest := []) ⟨hx, hb, hml, hown, hts⟩ (r_addCode l D ws_262 ty_263 adK adV fo rd krd tp ktp cd bb tl (-3) H.size (⟨ts_115, te_116, cc_117, ra_118, rb_119, rc_120, rv_121, re_122, ya_123, by omega, by omega, by omega, by omega, e_267, e_268, ⟨k_130, c9_131, t_132, f_270, e_269, u_271⟩, ⟨k_136, c9_137, t_138, f_273, e_272, u_274⟩⟩ : RS ws_262 ty_263 rd krd tp ktp cd bb tl)) (cwV 1 hts gX4_readEither_X4_addCode rfl rfl rfl (by decide +kernel) ⟨Nat.le_of_ble_eq_true rfl, Nat.le_of_ble_eq_true rfl⟩) ⟨fun a U g mk q => by obtain ⟨q0, q1, qP, qK, qD, qS⟩ := q; exact ⟨q0, q1, qP, va_K.moved (u := U) (U := U.calling g mk a) (Vm.Alike.refl U.vm) qK, qD, SZ.same rfl rfl qS⟩, va_recv hK hP (ci := 4) (q0 := krd) rfl e_267, fun U hU hW => ⟨rfl, by rw [hU], by rw [hU]; exact hP, va_K.moved hW.alike hK, hD.weaken (fun _ _ _ _ => trivial), hsz9.go hS hW hU hFc⟩⟩ rfl rfl hl.1 rfl (lv_room (Nat.le_of_ble_eq_true rfl)) dX4_readEither_108 ⟨Nat.le_of_ble_eq_true rfl, Nat.le_of_ble_eq_true rfl⟩) hS (fun q _ h => hFc q h) hFc (fun u t H1 locs ht hvm w_278 hB hz1 hk1 hS => ?_)
    obtain ⟨ws_279, ty_280, hm_281, ht_283, hP1, hK1, hD1, hx_282⟩ := hB
    rw [ht] at hP1
    have hK := va_K.moved hvm.symm hK1
    have hD := hD1.weaken (fun _ _ _ h => hFc _ h)
    generalize H1 = H at hP1 hS ⊢
    have hP := hP1
    obtain ⟨g_285, e_284, h_286⟩ := hm_281.obj e_267
    obtain ⟨z_287, z_288, z_289, z_290, z_291, z_292, rfl⟩ := smX4 h_286
    obtain ⟨g_294, e_293, h_295⟩ := hm_281.obj e_268
    obtain ⟨z_296, z_297, z_298, z_299, rfl⟩ := smX6 h_295
    obtain ⟨f_301, e_300⟩ := hm_281.arrI e_269
    have u_302 := ht_283 _ _ u_271
    obtain ⟨f_304, e_303⟩ := hm_281.arrI e_272
    have u_305 := ht_283 _ _ u_274
    have hsm := hsm.tr (hm_281.mono (by decide))
    have hlp_93 := hlp_93.tr (hm_281.mono (by decide))
    have htx := htx.tr ht_283
    obtain ⟨ts_306, te_307, cc_308, ra_309, rb_310, rc_311, rv_312, re_313, ya_314, h1_315, h2_316, h3_317, h4_318, er_319, et_320, ⟨k_321, c9_322, t_323, f_324, e_325, u_326⟩, ⟨k_327, c9_328, t_329, f_330, e_331, u_332⟩⟩ := id hx_282
    refine lv_iload_n hx hb dX4_readEither_111 rfl (lv_at hl 1 rfl) ?_
    exact W.zret (v := x_86) hx hb hr (by rcases hbx_89 with h9 | h9 <;> rw [h9] <;> rfl) (fun t ht hW => ⟨⟨x_86, (), rfl, hbx_89, ws_279, ty_280, hsm, htx, by rw [ht]; exact hP, va_K.moved hW.alike hK, hD, (⟨ts_306, te_307, cc_308, ra_309, rb_310, rc_311, rv_312, re_313, ya_314, by omega, by omega, by omega, by omega, er_319, et_320, ⟨k_321, c9_322, t_323, f_324, e_325, u_326⟩, ⟨k_327, c9_328, t_329, f_330, e_331, u_332⟩⟩ : RS ws_279 ty_280 rd krd tp ktp cd bb tl)⟩, hS.F ht⟩) hS.2.2 dX4_readEither_112
  refine lv_if_eq (tgt := 101) hx hb dX4_readEither_27 (by decide) (fun c_333 => absurd c_333 (by decide)) (fun c_333 => ?_)
  refine lv_aload_n hx hb dX4_readEither_30 rfl (lv_at hl 4 rfl) ?_
  refine va_get (D := D) (ci := 4) (v := .ref tp) (C := RX4) (T := TX4) (N := 8) hx hb hts hin4 hown hK hP krd e_267 rfl 0 (by decide) (hts (.fieldLink RX4 12 "HoneyHouse$RuleReader" "tape" "LHoneyHouse$Tape;") (List.mem_of_getElem? (i := 1) rfl)) (fun _ h9 => h9) rfl dX4_readEither_31 ?_
  refine va_ldcS hx hb hown hsz9.2.2.2.2.2.1 dX4_readEither_34 ?_
  have hFc := free_all hD hS hA
  refine va_calli (va_runV (As := [.ref (adK 2)]) (rest := []) ⟨hx, hb, hml, hown, hts⟩ (a_isWord l D ws_262 ty_263 adK adV fo 2 tp ktp tl ya_123 (nI ts_115) (nI te_116) bb k_136 c9_137 t_138 f_273 H.size (by decide) e_268 e_272 u_274) (cwV 1 hts gX4_readEither_X6_isWord rfl rfl rfl (by decide +kernel) ⟨Nat.le_of_ble_eq_true rfl, Nat.le_of_ble_eq_true rfl⟩) ⟨fun a U g mk q => by obtain ⟨q0, q1, qP, qK, qD, qS⟩ := q; exact ⟨q0, q1, qP, va_K.moved (u := U) (U := U.calling g mk a) (Vm.Alike.refl U.vm) qK, qD, SZ.same rfl rfl qS⟩, va_recv hK hP (ci := 6) (q0 := ktp) rfl e_268, fun U hU hW => ⟨rfl, by rw [hU], by rw [hU]; exact hP, va_K.moved hW.alike hK, hD.weaken (fun _ _ _ _ => trivial), hsz9.go hS hW hU hFc⟩⟩ rfl rfl hl.1 rfl (lv_room (Nat.le_of_ble_eq_true rfl)) dX4_readEither_36 ⟨Nat.le_of_ble_eq_true rfl, Nat.le_of_ble_eq_true rfl⟩) hS (fun q _ h => hFc q h) hFc (fun r_334 u t H1 locs ht hvm w_335 hB hz1 hk1 hS => ?_)
  obtain ⟨ws_336, ty_337, hm_338, ht_340, hP1, hK1, hD1, hx_339⟩ := hB
  rw [ht] at hP1
  have hK := va_K.moved hvm.symm hK1
  have hD := hD1.weaken (fun _ _ _ h => hFc _ h)
  generalize H1 = H at hP1 hS ⊢
  have hP := hP1
  have e_341 := hm_338.objK e_267 (by decide)
  have e_342 := hm_338.objK e_268 (by decide)
  obtain ⟨f_344, e_343⟩ := hm_338.arrI e_269
  have u_345 := ht_340 _ _ u_271
  obtain ⟨f_347, e_346⟩ := hm_338.arrI e_272
  have u_348 := ht_340 _ _ u_274
  have hsm := hsm.tr (hm_338.mono (by decide))
  have hlp_93 := hlp_93.tr (hm_338.mono (by decide))
  have htx := htx.tr ht_340
  rcases w_335 with rfl | rfl
  · refine lv_istore (lv' := [(5, .int 0), (4, .int (nI i_85)), (2, .int x_86), (3, .int y_87), (1, .int 2), (0, .ref rd)]) hx hb dX4_readEither_39 hl (by decide) rfl (fun ls hl => ?_)
    refine lv_iload hx hb dX4_readEither_41 (lv_at hl 0 rfl) ?_
    refine lv_if_ne (tgt := 56) hx hb dX4_readEither_43 (by decide) (fun c_349 => absurd (by decide) c_349) (fun c_349 => ?_)
    refine lv_iload_n hx hb dX4_readEither_46 rfl (lv_at hl 3 rfl) ?_
    refine lv_if_eq (tgt := 56) hx hb dX4_readEither_47 (by decide) (fun c_350 => ?_) (fun c_350 => ?_)
    · refine lv_iload_n hx hb dX4_readEither_56 rfl (lv_at hl 3 rfl) ?_
      refine lv_if_ne (tgt := 65) hx hb dX4_readEither_57 (by decide) (fun c_351 => ?_) (fun c_351 => ?_)
      · refine lv_iconst (v := 1) hx hb dX4_readEither_65 (by decide) ?_
        refine lv_goto (tgt := 70) hx hb dX4_readEither_66 (by decide) ?_
        refine lv_istore_n (lv' := [(3, .int 1), (5, .int 0), (4, .int (nI i_85)), (2, .int x_86), (1, .int 2), (0, .ref rd)]) hx hb dX4_readEither_70 rfl hl (by decide) rfl (fun ls hl => ?_)
        refine lv_aload_n hx hb dX4_readEither_71 rfl (lv_at hl 5 rfl) ?_
        refine va_get (D := D) (ci := 4) (v := .ref tp) (C := RX4) (T := TX4) (N := 8) hx hb hts hin4 hown hK hP krd e_341 rfl 0 (by decide) (hts (.fieldLink RX4 12 "HoneyHouse$RuleReader" "tape" "LHoneyHouse$Tape;") (List.mem_of_getElem? (i := 1) rfl)) (fun _ h9 => h9) rfl dX4_readEither_72 ?_
        have hFc := free_all hD hS hA
        refine va_callv (va_runV (As := []) (rest := []) ⟨hx, hb, hml, hown, hts⟩ (a_advance l D ws_336 ty_337 tp ktp tl te_116 ya_123 (nI ts_115) bb k_136 c9_137 t_138 f_347 H.size (by omega) (by omega) e_342 e_346 u_348) (cwV 0 hts gX4_readEither_X6_advance rfl rfl rfl (by decide +kernel) ⟨Nat.le_of_ble_eq_true rfl, Nat.le_of_ble_eq_true rfl⟩) ⟨fun a U g mk q => by obtain ⟨q0, q1, qP, qK, qD⟩ := q; exact ⟨q0, q1, qP, va_K.moved (u := U) (U := U.calling g mk a) (Vm.Alike.refl U.vm) qK, qD⟩, va_recv hK hP (ci := 6) (q0 := ktp) rfl e_342, fun U hU hW => ⟨rfl, by rw [hU], by rw [hU]; exact hP, va_K.moved hW.alike hK, hD.weaken (fun _ _ _ _ => trivial)⟩⟩ rfl rfl hl.1 rfl (lv_room (Nat.le_of_ble_eq_true rfl)) dX4_readEither_75 ⟨Nat.le_of_ble_eq_true rfl, Nat.le_of_ble_eq_true rfl⟩) hS (fun q _ h => hFc q h) hFc (fun u t H1 locs ht hvm w_353 hB hz1 hk1 hS => ?_)
        obtain ⟨ws_354, ty_355, hm_356, ht_358, hP1, hK1, hD1, hx_357⟩ := hB
        rw [ht] at hP1
        have hK := va_K.moved hvm.symm hK1
        have hD := hD1.weaken (fun _ _ _ h => hFc _ h)
        generalize H1 = H at hP1 hS ⊢
        have hP := hP1
        have e_359 := hm_356.objK e_341 (by decide)
        obtain ⟨g_361, e_360, h_362⟩ := hm_356.obj e_342
        obtain ⟨z_363, z_364, z_365, z_366, rfl⟩ := smX6 h_362
        obtain ⟨f_368, e_367⟩ := hm_356.arrI e_343
        have u_369 := ht_358 _ _ u_345
        obtain ⟨f_371, e_370⟩ := hm_356.arrI e_346
        have u_372 := ht_358 _ _ u_348
        have hsm := hsm.tr (hm_356.mono (by decide))
        have hlp_93 := hlp_93.tr (hm_356.mono (by decide))
        have htx := htx.tr ht_358
        obtain ⟨k_373, s_374, e_375, h_376, h_377, h_378, e_379⟩ := hx_357
        refine lv_aload_n hx hb dX4_readEither_78 rfl (lv_at hl 5 rfl) ?_
        refine lv_iload_n hx hb dX4_readEither_79 rfl (lv_at hl 4 rfl) ?_
        have hFc := free_all hD hS hA
        refine va_calli (va_runV (As := [.int 2]) (rest := []) ⟨hx, hb, hml, hown, hts⟩ (r_readOne2 l D ws_354 ty_355 adK adV fo rd krd tp ktp cd bb tl  H.size (⟨s_374, e_375, cc_117, ra_118, rb_119, rc_120, rv_121, re_122, nI k_373, by omega, by omega, by omega, by omega, e_359, e_379, ⟨k_130, c9_131, t_132, f_368, e_367, u_369⟩, ⟨k_136, c9_137, t_138, f_371, e_370, u_372⟩⟩ : RS ws_354 ty_355 rd krd tp ktp cd bb tl)) (cwV 1 hts gX4_readEither_X4_readOne rfl rfl rfl (by decide +kernel) ⟨Nat.le_of_ble_eq_true rfl, Nat.le_of_ble_eq_true rfl⟩) ⟨fun a U g mk q => by obtain ⟨q0, q1, qP, qK, qD, qS⟩ := q; exact ⟨q0, q1, qP, va_K.moved (u := U) (U := U.calling g mk a) (Vm.Alike.refl U.vm) qK, qD, SZ.same rfl rfl qS⟩, va_recv hK hP (ci := 4) (q0 := krd) rfl e_359, fun U hU hW => ⟨rfl, by rw [hU], by rw [hU]; exact hP, va_K.moved hW.alike hK, hD.weaken (fun _ _ _ _ => trivial), hsz9.go hS hW hU hFc⟩⟩ rfl rfl hl.1 rfl (lv_room (Nat.le_of_ble_eq_true rfl)) dX4_readEither_80 ⟨Nat.le_of_ble_eq_true rfl, Nat.le_of_ble_eq_true rfl⟩) hS (fun q _ h => hFc q h) hFc (fun r_380 u t H1 locs ht hvm w_381 hB hz1 hk1 hS => ?_)
        obtain ⟨ws_382, ty_383, hm_384, ht_386, hP1, hK1, hD1, hx_385⟩ := hB
        rw [ht] at hP1
        have hK := va_K.moved hvm.symm hK1
        have hD := hD1.weaken (fun _ _ _ h => hFc _ h)
        generalize H1 = H at hP1 hS ⊢
        have hP := hP1
        obtain ⟨g_388, e_387, h_389⟩ := hm_384.obj e_359
        obtain ⟨z_390, z_391, z_392, z_393, z_394, z_395, rfl⟩ := smX4 h_389
        obtain ⟨g_397, e_396, h_398⟩ := hm_384.obj e_379
        obtain ⟨z_399, z_400, z_401, z_402, rfl⟩ := smX6 h_398
        obtain ⟨f_404, e_403⟩ := hm_384.arrI e_367
        have u_405 := ht_386 _ _ u_369
        obtain ⟨f_407, e_406⟩ := hm_384.arrI e_370
        have u_408 := ht_386 _ _ u_372
        have hsm := hsm.tr (hm_384.mono (by decide))
        have hlp_93 := hlp_93.tr (hm_384.mono (by decide))
        have htx := htx.tr ht_386
        obtain ⟨ts_409, te_410, cc_411, ra_412, rb_413, rc_414, rv_415, re_416, ya_417, h1_418, h2_419, h3_420, h4_421, er_422, et_423, ⟨k_424, c9_425, t_426, f_427, e_428, u_429⟩, ⟨k_430, c9_431, t_432, f_433, e_434, u_435⟩⟩ := id hx_385
        refine lv_istore_n (lv' := [(2, .int r_380), (3, .int 1), (5, .int 0), (4, .int (nI i_85)), (1, .int 2), (0, .ref rd)]) hx hb dX4_readEither_83 rfl hl (by decide) rfl (fun ls hl => ?_)
        refine lv_iload hx hb dX4_readEither_84 (lv_at hl 2 rfl) ?_
        refine lv_if_eq (tgt := 95) hx hb dX4_readEither_86 (by decide) (fun c_436 => ?_) (fun c_436 => absurd (by decide) c_436)
        refine lv_iinc (v := nI (i_85 + 1)) (lv' := [(4, .int (nI (i_85 + 1))), (2, .int r_380), (3, .int 1), (5, .int 0), (1, .int 2), (0, .ref rd)]) hx hb dX4_readEither_95 hl (k := 3) rfl (nI_add i_85 1) (by decide) rfl (fun ls hl => ?_)
        refine lv_goto (tgt := 11) hx hb dX4_readEither_98 (by decide) ?_
        exact ih_84 (i_85 + 1, r_380, 1) ws_382 _ _ ls (by show 400 - (i_85 + 1) < 400 - i_85; omega) ⟨hlp_93, (⟨ts_409, te_410, cc_411, ra_412, rb_413, rc_414, rv_415, re_416, ya_417, by omega, by omega, by omega, by omega, er_422, et_423, ⟨k_424, c9_425, t_426, f_427, e_428, u_429⟩, ⟨k_430, c9_431, t_432, f_433, e_434, u_435⟩⟩ : RS ws_382 ty_383 rd krd tp ktp cd bb tl), (show (i_85 + 1) ≤ 400 from by omega), (show r_380 = 0 ∨ r_380 = 1 from w_381), (show 1 = 0 ∨ 1 = 1 from Or.inr rfl)⟩ hP hD hS (lv_sub hl [0, 1, 2, 4, 5] rfl)
      refine lv_iload hx hb dX4_readEither_60 (lv_at hl 0 rfl) ?_
      refine lv_if_ne (tgt := 69) hx hb dX4_readEither_62 (by decide) (fun c_437 => absurd (by decide) c_437) (fun c_437 => ?_)
      refine lv_iconst (v := 1) hx hb dX4_readEither_65 (by decide) ?_
      refine lv_goto (tgt := 70) hx hb dX4_readEither_66 (by decide) ?_
      refine lv_istore_n (lv' := [(3, .int 1), (5, .int 0), (4, .int (nI i_85)), (2, .int x_86), (1, .int 2), (0, .ref rd)]) hx hb dX4_readEither_70 rfl hl (by decide) rfl (fun ls hl => ?_)
      refine lv_aload_n hx hb dX4_readEither_71 rfl (lv_at hl 5 rfl) ?_
      refine va_get (D := D) (ci := 4) (v := .ref tp) (C := RX4) (T := TX4) (N := 8) hx hb hts hin4 hown hK hP krd e_341 rfl 0 (by decide) (hts (.fieldLink RX4 12 "HoneyHouse$RuleReader" "tape" "LHoneyHouse$Tape;") (List.mem_of_getElem? (i := 1) rfl)) (fun _ h9 => h9) rfl dX4_readEither_72 ?_
      have hFc := free_all hD hS hA
      refine va_callv (va_runV (As := []) (rest := []) ⟨hx, hb, hml, hown, hts⟩ (a_advance l D ws_336 ty_337 tp ktp tl te_116 ya_123 (nI ts_115) bb k_136 c9_137 t_138 f_347 H.size (by omega) (by omega) e_342 e_346 u_348) (cwV 0 hts gX4_readEither_X6_advance rfl rfl rfl (by decide +kernel) ⟨Nat.le_of_ble_eq_true rfl, Nat.le_of_ble_eq_true rfl⟩) ⟨fun a U g mk q => by obtain ⟨q0, q1, qP, qK, qD⟩ := q; exact ⟨q0, q1, qP, va_K.moved (u := U) (U := U.calling g mk a) (Vm.Alike.refl U.vm) qK, qD⟩, va_recv hK hP (ci := 6) (q0 := ktp) rfl e_342, fun U hU hW => ⟨rfl, by rw [hU], by rw [hU]; exact hP, va_K.moved hW.alike hK, hD.weaken (fun _ _ _ _ => trivial)⟩⟩ rfl rfl hl.1 rfl (lv_room (Nat.le_of_ble_eq_true rfl)) dX4_readEither_75 ⟨Nat.le_of_ble_eq_true rfl, Nat.le_of_ble_eq_true rfl⟩) hS (fun q _ h => hFc q h) hFc (fun u t H1 locs ht hvm w_439 hB hz1 hk1 hS => ?_)
      obtain ⟨ws_440, ty_441, hm_442, ht_444, hP1, hK1, hD1, hx_443⟩ := hB
      rw [ht] at hP1
      have hK := va_K.moved hvm.symm hK1
      have hD := hD1.weaken (fun _ _ _ h => hFc _ h)
      generalize H1 = H at hP1 hS ⊢
      have hP := hP1
      have e_445 := hm_442.objK e_341 (by decide)
      obtain ⟨g_447, e_446, h_448⟩ := hm_442.obj e_342
      obtain ⟨z_449, z_450, z_451, z_452, rfl⟩ := smX6 h_448
      obtain ⟨f_454, e_453⟩ := hm_442.arrI e_343
      have u_455 := ht_444 _ _ u_345
      obtain ⟨f_457, e_456⟩ := hm_442.arrI e_346
      have u_458 := ht_444 _ _ u_348
      have hsm := hsm.tr (hm_442.mono (by decide))
      have hlp_93 := hlp_93.tr (hm_442.mono (by decide))
      have htx := htx.tr ht_444
      obtain ⟨k_459, s_460, e_461, h_462, h_463, h_464, e_465⟩ := hx_443
      refine lv_aload_n hx hb dX4_readEither_78 rfl (lv_at hl 5 rfl) ?_
      refine lv_iload_n hx hb dX4_readEither_79 rfl (lv_at hl 4 rfl) ?_
      have hFc := free_all hD hS hA
      refine va_calli (va_runV (As := [.int 2]) (rest := []) ⟨hx, hb, hml, hown, hts⟩ (r_readOne2 l D ws_440 ty_441 adK adV fo rd krd tp ktp cd bb tl  H.size (⟨s_460, e_461, cc_117, ra_118, rb_119, rc_120, rv_121, re_122, nI k_459, by omega, by omega, by omega, by omega, e_445, e_465, ⟨k_130, c9_131, t_132, f_454, e_453, u_455⟩, ⟨k_136, c9_137, t_138, f_457, e_456, u_458⟩⟩ : RS ws_440 ty_441 rd krd tp ktp cd bb tl)) (cwV 1 hts gX4_readEither_X4_readOne rfl rfl rfl (by decide +kernel) ⟨Nat.le_of_ble_eq_true rfl, Nat.le_of_ble_eq_true rfl⟩) ⟨fun a U g mk q => by obtain ⟨q0, q1, qP, qK, qD, qS⟩ := q; exact ⟨q0, q1, qP, va_K.moved (u := U) (U := U.calling g mk a) (Vm.Alike.refl U.vm) qK, qD, SZ.same rfl rfl qS⟩, va_recv hK hP (ci := 4) (q0 := krd) rfl e_445, fun U hU hW => ⟨rfl, by rw [hU], by rw [hU]; exact hP, va_K.moved hW.alike hK, hD.weaken (fun _ _ _ _ => trivial), hsz9.go hS hW hU hFc⟩⟩ rfl rfl hl.1 rfl (lv_room (Nat.le_of_ble_eq_true rfl)) dX4_readEither_80 ⟨Nat.le_of_ble_eq_true rfl, Nat.le_of_ble_eq_true rfl⟩) hS (fun q _ h => hFc q h) hFc (fun r_466 u t H1 locs ht hvm w_467 hB hz1 hk1 hS => ?_)
      obtain ⟨ws_468, ty_469, hm_470, ht_472, hP1, hK1, hD1, hx_471⟩ := hB
      rw [ht] at hP1
      have hK := va_K.moved hvm.symm hK1
      have hD := hD1.weaken (fun _ _ _ h => hFc _ h)
      generalize H1 = H at hP1 hS ⊢
      have hP := hP1
      obtain ⟨g_474, e_473, h_475⟩ := hm_470.obj e_445
      obtain ⟨z_476, z_477, z_478, z_479, z_480, z_481, rfl⟩ := smX4 h_475
      obtain ⟨g_483, e_482, h_484⟩ := hm_470.obj e_465
      obtain ⟨z_485, z_486, z_487, z_488, rfl⟩ := smX6 h_484
      obtain ⟨f_490, e_489⟩ := hm_470.arrI e_453
      have u_491 := ht_472 _ _ u_455
      obtain ⟨f_493, e_492⟩ := hm_470.arrI e_456
      have u_494 := ht_472 _ _ u_458
      have hsm := hsm.tr (hm_470.mono (by decide))
      have hlp_93 := hlp_93.tr (hm_470.mono (by decide))
      have htx := htx.tr ht_472
      obtain ⟨ts_495, te_496, cc_497, ra_498, rb_499, rc_500, rv_501, re_502, ya_503, h1_504, h2_505, h3_506, h4_507, er_508, et_509, ⟨k_510, c9_511, t_512, f_513, e_514, u_515⟩, ⟨k_516, c9_517, t_518, f_519, e_520, u_521⟩⟩ := id hx_471
      refine lv_istore_n (lv' := [(2, .int r_466), (3, .int 1), (5, .int 0), (4, .int (nI i_85)), (1, .int 2), (0, .ref rd)]) hx hb dX4_readEither_83 rfl hl (by decide) rfl (fun ls hl => ?_)
      refine lv_iload hx hb dX4_readEither_84 (lv_at hl 2 rfl) ?_
      refine lv_if_eq (tgt := 95) hx hb dX4_readEither_86 (by decide) (fun c_522 => ?_) (fun c_522 => absurd (by decide) c_522)
      refine lv_iinc (v := nI (i_85 + 1)) (lv' := [(4, .int (nI (i_85 + 1))), (2, .int r_466), (3, .int 1), (5, .int 0), (1, .int 2), (0, .ref rd)]) hx hb dX4_readEither_95 hl (k := 3) rfl (nI_add i_85 1) (by decide) rfl (fun ls hl => ?_)
      refine lv_goto (tgt := 11) hx hb dX4_readEither_98 (by decide) ?_
      exact ih_84 (i_85 + 1, r_466, 1) ws_468 _ _ ls (by show 400 - (i_85 + 1) < 400 - i_85; omega) ⟨hlp_93, (⟨ts_495, te_496, cc_497, ra_498, rb_499, rc_500, rv_501, re_502, ya_503, by omega, by omega, by omega, by omega, er_508, et_509, ⟨k_510, c9_511, t_512, f_513, e_514, u_515⟩, ⟨k_516, c9_517, t_518, f_519, e_520, u_521⟩⟩ : RS ws_468 ty_469 rd krd tp ktp cd bb tl), (show (i_85 + 1) ≤ 400 from by omega), (show r_466 = 0 ∨ r_466 = 1 from w_467), (show 1 = 0 ∨ 1 = 1 from Or.inr rfl)⟩ hP hD hS (lv_sub hl [0, 1, 2, 4, 5] rfl)
    refine lv_aload_n hx hb dX4_readEither_50 rfl (lv_at hl 5 rfl) ?_
    refine lv_bipush (v := (-3)) hx hb dX4_readEither_51 (by decide) ?_
    have hFc := free_all hD hS hA
    refine va_callv (va_runV (As := [.int (-3)]) (rest := []) ⟨hx, hb, hml, hown, hts⟩ (r_addCode l D ws_336 ty_337 adK adV fo rd krd tp ktp cd bb tl (-3) H.size (⟨ts_115, te_116, cc_117, ra_118, rb_119, rc_120, rv_121, re_122, ya_123, by omega, by omega, by omega, by omega, e_341, e_342, ⟨k_130, c9_131, t_132, f_344, e_343, u_345⟩, ⟨k_136, c9_137, t_138, f_347, e_346, u_348⟩⟩ : RS ws_336 ty_337 rd krd tp ktp cd bb tl)) (cwV 1 hts gX4_readEither_X4_addCode rfl rfl rfl (by decide +kernel) ⟨Nat.le_of_ble_eq_true rfl, Nat.le_of_ble_eq_true rfl⟩) ⟨fun a U g mk q => by obtain ⟨q0, q1, qP, qK, qD, qS⟩ := q; exact ⟨q0, q1, qP, va_K.moved (u := U) (U := U.calling g mk a) (Vm.Alike.refl U.vm) qK, qD, SZ.same rfl rfl qS⟩, va_recv hK hP (ci := 4) (q0 := krd) rfl e_341, fun U hU hW => ⟨rfl, by rw [hU], by rw [hU]; exact hP, va_K.moved hW.alike hK, hD.weaken (fun _ _ _ _ => trivial), hsz9.go hS hW hU hFc⟩⟩ rfl rfl hl.1 rfl (lv_room (Nat.le_of_ble_eq_true rfl)) dX4_readEither_53 ⟨Nat.le_of_ble_eq_true rfl, Nat.le_of_ble_eq_true rfl⟩) hS (fun q _ h => hFc q h) hFc (fun u t H1 locs ht hvm w_524 hB hz1 hk1 hS => ?_)
    obtain ⟨ws_525, ty_526, hm_527, ht_529, hP1, hK1, hD1, hx_528⟩ := hB
    rw [ht] at hP1
    have hK := va_K.moved hvm.symm hK1
    have hD := hD1.weaken (fun _ _ _ h => hFc _ h)
    generalize H1 = H at hP1 hS ⊢
    have hP := hP1
    obtain ⟨g_531, e_530, h_532⟩ := hm_527.obj e_341
    obtain ⟨z_533, z_534, z_535, z_536, z_537, z_538, rfl⟩ := smX4 h_532
    obtain ⟨g_540, e_539, h_541⟩ := hm_527.obj e_342
    obtain ⟨z_542, z_543, z_544, z_545, rfl⟩ := smX6 h_541
    obtain ⟨f_547, e_546⟩ := hm_527.arrI e_343
    have u_548 := ht_529 _ _ u_345
    obtain ⟨f_550, e_549⟩ := hm_527.arrI e_346
    have u_551 := ht_529 _ _ u_348
    have hsm := hsm.tr (hm_527.mono (by decide))
    have hlp_93 := hlp_93.tr (hm_527.mono (by decide))
    have htx := htx.tr ht_529
    obtain ⟨ts_552, te_553, cc_554, ra_555, rb_556, rc_557, rv_558, re_559, ya_560, h1_561, h2_562, h3_563, h4_564, er_565, et_566, ⟨k_567, c9_568, t_569, f_570, e_571, u_572⟩, ⟨k_573, c9_574, t_575, f_576, e_577, u_578⟩⟩ := id hx_528
    refine lv_iload_n hx hb dX4_readEither_56 rfl (lv_at hl 3 rfl) ?_
    refine lv_if_ne (tgt := 65) hx hb dX4_readEither_57 (by decide) (fun c_579 => ?_) (fun c_579 => ?_)
    · refine lv_iconst (v := 1) hx hb dX4_readEither_65 (by decide) ?_
      refine lv_goto (tgt := 70) hx hb dX4_readEither_66 (by decide) ?_
      refine lv_istore_n (lv' := [(3, .int 1), (5, .int 0), (4, .int (nI i_85)), (2, .int x_86), (1, .int 2), (0, .ref rd)]) hx hb dX4_readEither_70 rfl hl (by decide) rfl (fun ls hl => ?_)
      refine lv_aload_n hx hb dX4_readEither_71 rfl (lv_at hl 5 rfl) ?_
      refine va_get (D := D) (ci := 4) (v := .ref tp) (C := RX4) (T := TX4) (N := 8) hx hb hts hin4 hown hK hP krd er_565 rfl 0 (by decide) (hts (.fieldLink RX4 12 "HoneyHouse$RuleReader" "tape" "LHoneyHouse$Tape;") (List.mem_of_getElem? (i := 1) rfl)) (fun _ h9 => h9) rfl dX4_readEither_72 ?_
      have hFc := free_all hD hS hA
      refine va_callv (va_runV (As := []) (rest := []) ⟨hx, hb, hml, hown, hts⟩ (a_advance l D ws_525 ty_526 tp ktp tl te_553 ya_560 (nI ts_552) bb k_573 c9_574 t_575 f_576 H.size (by omega) (by omega) et_566 e_577 u_578) (cwV 0 hts gX4_readEither_X6_advance rfl rfl rfl (by decide +kernel) ⟨Nat.le_of_ble_eq_true rfl, Nat.le_of_ble_eq_true rfl⟩) ⟨fun a U g mk q => by obtain ⟨q0, q1, qP, qK, qD⟩ := q; exact ⟨q0, q1, qP, va_K.moved (u := U) (U := U.calling g mk a) (Vm.Alike.refl U.vm) qK, qD⟩, va_recv hK hP (ci := 6) (q0 := ktp) rfl et_566, fun U hU hW => ⟨rfl, by rw [hU], by rw [hU]; exact hP, va_K.moved hW.alike hK, hD.weaken (fun _ _ _ _ => trivial)⟩⟩ rfl rfl hl.1 rfl (lv_room (Nat.le_of_ble_eq_true rfl)) dX4_readEither_75 ⟨Nat.le_of_ble_eq_true rfl, Nat.le_of_ble_eq_true rfl⟩) hS (fun q _ h => hFc q h) hFc (fun u t H1 locs ht hvm w_581 hB hz1 hk1 hS => ?_)
      obtain ⟨ws_582, ty_583, hm_584, ht_586, hP1, hK1, hD1, hx_585⟩ := hB
      rw [ht] at hP1
      have hK := va_K.moved hvm.symm hK1
      have hD := hD1.weaken (fun _ _ _ h => hFc _ h)
      generalize H1 = H at hP1 hS ⊢
      have hP := hP1
      have e_587 := hm_584.objK er_565 (by decide)
      obtain ⟨g_589, e_588, h_590⟩ := hm_584.obj et_566
      obtain ⟨z_591, z_592, z_593, z_594, rfl⟩ := smX6 h_590
      obtain ⟨f_596, e_595⟩ := hm_584.arrI e_571
      have u_597 := ht_586 _ _ u_572
      obtain ⟨f_599, e_598⟩ := hm_584.arrI e_577
      have u_600 := ht_586 _ _ u_578
      have hsm := hsm.tr (hm_584.mono (by decide))
      have hlp_93 := hlp_93.tr (hm_584.mono (by decide))
      have htx := htx.tr ht_586
      obtain ⟨k_601, s_602, e_603, h_604, h_605, h_606, e_607⟩ := hx_585
      refine lv_aload_n hx hb dX4_readEither_78 rfl (lv_at hl 5 rfl) ?_
      refine lv_iload_n hx hb dX4_readEither_79 rfl (lv_at hl 4 rfl) ?_
      have hFc := free_all hD hS hA
      refine va_calli (va_runV (As := [.int 2]) (rest := []) ⟨hx, hb, hml, hown, hts⟩ (r_readOne2 l D ws_582 ty_583 adK adV fo rd krd tp ktp cd bb tl  H.size (⟨s_602, e_603, cc_554, ra_555, rb_556, rc_557, rv_558, re_559, nI k_601, by omega, by omega, by omega, by omega, e_587, e_607, ⟨k_567, c9_568, t_569, f_596, e_595, u_597⟩, ⟨k_573, c9_574, t_575, f_599, e_598, u_600⟩⟩ : RS ws_582 ty_583 rd krd tp ktp cd bb tl)) (cwV 1 hts gX4_readEither_X4_readOne rfl rfl rfl (by decide +kernel) ⟨Nat.le_of_ble_eq_true rfl, Nat.le_of_ble_eq_true rfl⟩) ⟨fun a U g mk q => by obtain ⟨q0, q1, qP, qK, qD, qS⟩ := q; exact ⟨q0, q1, qP, va_K.moved (u := U) (U := U.calling g mk a) (Vm.Alike.refl U.vm) qK, qD, SZ.same rfl rfl qS⟩, va_recv hK hP (ci := 4) (q0 := krd) rfl e_587, fun U hU hW => ⟨rfl, by rw [hU], by rw [hU]; exact hP, va_K.moved hW.alike hK, hD.weaken (fun _ _ _ _ => trivial), hsz9.go hS hW hU hFc⟩⟩ rfl rfl hl.1 rfl (lv_room (Nat.le_of_ble_eq_true rfl)) dX4_readEither_80 ⟨Nat.le_of_ble_eq_true rfl, Nat.le_of_ble_eq_true rfl⟩) hS (fun q _ h => hFc q h) hFc (fun r_608 u t H1 locs ht hvm w_609 hB hz1 hk1 hS => ?_)
      obtain ⟨ws_610, ty_611, hm_612, ht_614, hP1, hK1, hD1, hx_613⟩ := hB
      rw [ht] at hP1
      have hK := va_K.moved hvm.symm hK1
      have hD := hD1.weaken (fun _ _ _ h => hFc _ h)
      generalize H1 = H at hP1 hS ⊢
      have hP := hP1
      obtain ⟨g_616, e_615, h_617⟩ := hm_612.obj e_587
      obtain ⟨z_618, z_619, z_620, z_621, z_622, z_623, rfl⟩ := smX4 h_617
      obtain ⟨g_625, e_624, h_626⟩ := hm_612.obj e_607
      obtain ⟨z_627, z_628, z_629, z_630, rfl⟩ := smX6 h_626
      obtain ⟨f_632, e_631⟩ := hm_612.arrI e_595
      have u_633 := ht_614 _ _ u_597
      obtain ⟨f_635, e_634⟩ := hm_612.arrI e_598
      have u_636 := ht_614 _ _ u_600
      have hsm := hsm.tr (hm_612.mono (by decide))
      have hlp_93 := hlp_93.tr (hm_612.mono (by decide))
      have htx := htx.tr ht_614
      obtain ⟨ts_637, te_638, cc_639, ra_640, rb_641, rc_642, rv_643, re_644, ya_645, h1_646, h2_647, h3_648, h4_649, er_650, et_651, ⟨k_652, c9_653, t_654, f_655, e_656, u_657⟩, ⟨k_658, c9_659, t_660, f_661, e_662, u_663⟩⟩ := id hx_613
      refine lv_istore_n (lv' := [(2, .int r_608), (3, .int 1), (5, .int 0), (4, .int (nI i_85)), (1, .int 2), (0, .ref rd)]) hx hb dX4_readEither_83 rfl hl (by decide) rfl (fun ls hl => ?_)
      refine lv_iload hx hb dX4_readEither_84 (lv_at hl 2 rfl) ?_
      refine lv_if_eq (tgt := 95) hx hb dX4_readEither_86 (by decide) (fun c_664 => ?_) (fun c_664 => absurd (by decide) c_664)
      refine lv_iinc (v := nI (i_85 + 1)) (lv' := [(4, .int (nI (i_85 + 1))), (2, .int r_608), (3, .int 1), (5, .int 0), (1, .int 2), (0, .ref rd)]) hx hb dX4_readEither_95 hl (k := 3) rfl (nI_add i_85 1) (by decide) rfl (fun ls hl => ?_)
      refine lv_goto (tgt := 11) hx hb dX4_readEither_98 (by decide) ?_
      exact ih_84 (i_85 + 1, r_608, 1) ws_610 _ _ ls (by show 400 - (i_85 + 1) < 400 - i_85; omega) ⟨hlp_93, (⟨ts_637, te_638, cc_639, ra_640, rb_641, rc_642, rv_643, re_644, ya_645, by omega, by omega, by omega, by omega, er_650, et_651, ⟨k_652, c9_653, t_654, f_655, e_656, u_657⟩, ⟨k_658, c9_659, t_660, f_661, e_662, u_663⟩⟩ : RS ws_610 ty_611 rd krd tp ktp cd bb tl), (show (i_85 + 1) ≤ 400 from by omega), (show r_608 = 0 ∨ r_608 = 1 from w_609), (show 1 = 0 ∨ 1 = 1 from Or.inr rfl)⟩ hP hD hS (lv_sub hl [0, 1, 2, 4, 5] rfl)
    refine lv_iload hx hb dX4_readEither_60 (lv_at hl 0 rfl) ?_
    refine lv_if_ne (tgt := 69) hx hb dX4_readEither_62 (by decide) (fun c_665 => absurd (by decide) c_665) (fun c_665 => ?_)
    refine lv_iconst (v := 1) hx hb dX4_readEither_65 (by decide) ?_
    refine lv_goto (tgt := 70) hx hb dX4_readEither_66 (by decide) ?_
    refine lv_istore_n (lv' := [(3, .int 1), (5, .int 0), (4, .int (nI i_85)), (2, .int x_86), (1, .int 2), (0, .ref rd)]) hx hb dX4_readEither_70 rfl hl (by decide) rfl (fun ls hl => ?_)
    refine lv_aload_n hx hb dX4_readEither_71 rfl (lv_at hl 5 rfl) ?_
    refine va_get (D := D) (ci := 4) (v := .ref tp) (C := RX4) (T := TX4) (N := 8) hx hb hts hin4 hown hK hP krd er_565 rfl 0 (by decide) (hts (.fieldLink RX4 12 "HoneyHouse$RuleReader" "tape" "LHoneyHouse$Tape;") (List.mem_of_getElem? (i := 1) rfl)) (fun _ h9 => h9) rfl dX4_readEither_72 ?_
    have hFc := free_all hD hS hA
    refine va_callv (va_runV (As := []) (rest := []) ⟨hx, hb, hml, hown, hts⟩ (a_advance l D ws_525 ty_526 tp ktp tl te_553 ya_560 (nI ts_552) bb k_573 c9_574 t_575 f_576 H.size (by omega) (by omega) et_566 e_577 u_578) (cwV 0 hts gX4_readEither_X6_advance rfl rfl rfl (by decide +kernel) ⟨Nat.le_of_ble_eq_true rfl, Nat.le_of_ble_eq_true rfl⟩) ⟨fun a U g mk q => by obtain ⟨q0, q1, qP, qK, qD⟩ := q; exact ⟨q0, q1, qP, va_K.moved (u := U) (U := U.calling g mk a) (Vm.Alike.refl U.vm) qK, qD⟩, va_recv hK hP (ci := 6) (q0 := ktp) rfl et_566, fun U hU hW => ⟨rfl, by rw [hU], by rw [hU]; exact hP, va_K.moved hW.alike hK, hD.weaken (fun _ _ _ _ => trivial)⟩⟩ rfl rfl hl.1 rfl (lv_room (Nat.le_of_ble_eq_true rfl)) dX4_readEither_75 ⟨Nat.le_of_ble_eq_true rfl, Nat.le_of_ble_eq_true rfl⟩) hS (fun q _ h => hFc q h) hFc (fun u t H1 locs ht hvm w_667 hB hz1 hk1 hS => ?_)
    obtain ⟨ws_668, ty_669, hm_670, ht_672, hP1, hK1, hD1, hx_671⟩ := hB
    rw [ht] at hP1
    have hK := va_K.moved hvm.symm hK1
    have hD := hD1.weaken (fun _ _ _ h => hFc _ h)
    generalize H1 = H at hP1 hS ⊢
    have hP := hP1
    have e_673 := hm_670.objK er_565 (by decide)
    obtain ⟨g_675, e_674, h_676⟩ := hm_670.obj et_566
    obtain ⟨z_677, z_678, z_679, z_680, rfl⟩ := smX6 h_676
    obtain ⟨f_682, e_681⟩ := hm_670.arrI e_571
    have u_683 := ht_672 _ _ u_572
    obtain ⟨f_685, e_684⟩ := hm_670.arrI e_577
    have u_686 := ht_672 _ _ u_578
    have hsm := hsm.tr (hm_670.mono (by decide))
    have hlp_93 := hlp_93.tr (hm_670.mono (by decide))
    have htx := htx.tr ht_672
    obtain ⟨k_687, s_688, e_689, h_690, h_691, h_692, e_693⟩ := hx_671
    refine lv_aload_n hx hb dX4_readEither_78 rfl (lv_at hl 5 rfl) ?_
    refine lv_iload_n hx hb dX4_readEither_79 rfl (lv_at hl 4 rfl) ?_
    have hFc := free_all hD hS hA
    refine va_calli (va_runV (As := [.int 2]) (rest := []) ⟨hx, hb, hml, hown, hts⟩ (r_readOne2 l D ws_668 ty_669 adK adV fo rd krd tp ktp cd bb tl  H.size (⟨s_688, e_689, cc_554, ra_555, rb_556, rc_557, rv_558, re_559, nI k_687, by omega, by omega, by omega, by omega, e_673, e_693, ⟨k_567, c9_568, t_569, f_682, e_681, u_683⟩, ⟨k_573, c9_574, t_575, f_685, e_684, u_686⟩⟩ : RS ws_668 ty_669 rd krd tp ktp cd bb tl)) (cwV 1 hts gX4_readEither_X4_readOne rfl rfl rfl (by decide +kernel) ⟨Nat.le_of_ble_eq_true rfl, Nat.le_of_ble_eq_true rfl⟩) ⟨fun a U g mk q => by obtain ⟨q0, q1, qP, qK, qD, qS⟩ := q; exact ⟨q0, q1, qP, va_K.moved (u := U) (U := U.calling g mk a) (Vm.Alike.refl U.vm) qK, qD, SZ.same rfl rfl qS⟩, va_recv hK hP (ci := 4) (q0 := krd) rfl e_673, fun U hU hW => ⟨rfl, by rw [hU], by rw [hU]; exact hP, va_K.moved hW.alike hK, hD.weaken (fun _ _ _ _ => trivial), hsz9.go hS hW hU hFc⟩⟩ rfl rfl hl.1 rfl (lv_room (Nat.le_of_ble_eq_true rfl)) dX4_readEither_80 ⟨Nat.le_of_ble_eq_true rfl, Nat.le_of_ble_eq_true rfl⟩) hS (fun q _ h => hFc q h) hFc (fun r_694 u t H1 locs ht hvm w_695 hB hz1 hk1 hS => ?_)
    obtain ⟨ws_696, ty_697, hm_698, ht_700, hP1, hK1, hD1, hx_699⟩ := hB
    rw [ht] at hP1
    have hK := va_K.moved hvm.symm hK1
    have hD := hD1.weaken (fun _ _ _ h => hFc _ h)
    generalize H1 = H at hP1 hS ⊢
    have hP := hP1
    obtain ⟨g_702, e_701, h_703⟩ := hm_698.obj e_673
    obtain ⟨z_704, z_705, z_706, z_707, z_708, z_709, rfl⟩ := smX4 h_703
    obtain ⟨g_711, e_710, h_712⟩ := hm_698.obj e_693
    obtain ⟨z_713, z_714, z_715, z_716, rfl⟩ := smX6 h_712
    obtain ⟨f_718, e_717⟩ := hm_698.arrI e_681
    have u_719 := ht_700 _ _ u_683
    obtain ⟨f_721, e_720⟩ := hm_698.arrI e_684
    have u_722 := ht_700 _ _ u_686
    have hsm := hsm.tr (hm_698.mono (by decide))
    have hlp_93 := hlp_93.tr (hm_698.mono (by decide))
    have htx := htx.tr ht_700
    obtain ⟨ts_723, te_724, cc_725, ra_726, rb_727, rc_728, rv_729, re_730, ya_731, h1_732, h2_733, h3_734, h4_735, er_736, et_737, ⟨k_738, c9_739, t_740, f_741, e_742, u_743⟩, ⟨k_744, c9_745, t_746, f_747, e_748, u_749⟩⟩ := id hx_699
    refine lv_istore_n (lv' := [(2, .int r_694), (3, .int 1), (5, .int 0), (4, .int (nI i_85)), (1, .int 2), (0, .ref rd)]) hx hb dX4_readEither_83 rfl hl (by decide) rfl (fun ls hl => ?_)
    refine lv_iload hx hb dX4_readEither_84 (lv_at hl 2 rfl) ?_
    refine lv_if_eq (tgt := 95) hx hb dX4_readEither_86 (by decide) (fun c_750 => ?_) (fun c_750 => absurd (by decide) c_750)
    refine lv_iinc (v := nI (i_85 + 1)) (lv' := [(4, .int (nI (i_85 + 1))), (2, .int r_694), (3, .int 1), (5, .int 0), (1, .int 2), (0, .ref rd)]) hx hb dX4_readEither_95 hl (k := 3) rfl (nI_add i_85 1) (by decide) rfl (fun ls hl => ?_)
    refine lv_goto (tgt := 11) hx hb dX4_readEither_98 (by decide) ?_
    exact ih_84 (i_85 + 1, r_694, 1) ws_696 _ _ ls (by show 400 - (i_85 + 1) < 400 - i_85; omega) ⟨hlp_93, (⟨ts_723, te_724, cc_725, ra_726, rb_727, rc_728, rv_729, re_730, ya_731, by omega, by omega, by omega, by omega, er_736, et_737, ⟨k_738, c9_739, t_740, f_741, e_742, u_743⟩, ⟨k_744, c9_745, t_746, f_747, e_748, u_749⟩⟩ : RS ws_696 ty_697 rd krd tp ktp cd bb tl), (show (i_85 + 1) ≤ 400 from by omega), (show r_694 = 0 ∨ r_694 = 1 from w_695), (show 1 = 0 ∨ 1 = 1 from Or.inr rfl)⟩ hP hD hS (lv_sub hl [0, 1, 2, 4, 5] rfl)
  refine lv_istore (lv' := [(5, .int 1), (4, .int (nI i_85)), (2, .int x_86), (3, .int y_87), (1, .int 2), (0, .ref rd)]) hx hb dX4_readEither_39 hl (by decide) rfl (fun ls hl => ?_)
  refine lv_iload hx hb dX4_readEither_41 (lv_at hl 0 rfl) ?_
  refine lv_if_ne (tgt := 56) hx hb dX4_readEither_43 (by decide) (fun c_751 => ?_) (fun c_751 => absurd c_751 (by decide))
  refine lv_iload_n hx hb dX4_readEither_56 rfl (lv_at hl 3 rfl) ?_
  refine lv_if_ne (tgt := 65) hx hb dX4_readEither_57 (by decide) (fun c_752 => ?_) (fun c_752 => ?_)
  · refine lv_iconst (v := 1) hx hb dX4_readEither_65 (by decide) ?_
    refine lv_goto (tgt := 70) hx hb dX4_readEither_66 (by decide) ?_
    refine lv_istore_n (lv' := [(3, .int 1), (5, .int 1), (4, .int (nI i_85)), (2, .int x_86), (1, .int 2), (0, .ref rd)]) hx hb dX4_readEither_70 rfl hl (by decide) rfl (fun ls hl => ?_)
    refine lv_aload_n hx hb dX4_readEither_71 rfl (lv_at hl 5 rfl) ?_
    refine va_get (D := D) (ci := 4) (v := .ref tp) (C := RX4) (T := TX4) (N := 8) hx hb hts hin4 hown hK hP krd e_341 rfl 0 (by decide) (hts (.fieldLink RX4 12 "HoneyHouse$RuleReader" "tape" "LHoneyHouse$Tape;") (List.mem_of_getElem? (i := 1) rfl)) (fun _ h9 => h9) rfl dX4_readEither_72 ?_
    have hFc := free_all hD hS hA
    refine va_callv (va_runV (As := []) (rest := []) ⟨hx, hb, hml, hown, hts⟩ (a_advance l D ws_336 ty_337 tp ktp tl te_116 ya_123 (nI ts_115) bb k_136 c9_137 t_138 f_347 H.size (by omega) (by omega) e_342 e_346 u_348) (cwV 0 hts gX4_readEither_X6_advance rfl rfl rfl (by decide +kernel) ⟨Nat.le_of_ble_eq_true rfl, Nat.le_of_ble_eq_true rfl⟩) ⟨fun a U g mk q => by obtain ⟨q0, q1, qP, qK, qD⟩ := q; exact ⟨q0, q1, qP, va_K.moved (u := U) (U := U.calling g mk a) (Vm.Alike.refl U.vm) qK, qD⟩, va_recv hK hP (ci := 6) (q0 := ktp) rfl e_342, fun U hU hW => ⟨rfl, by rw [hU], by rw [hU]; exact hP, va_K.moved hW.alike hK, hD.weaken (fun _ _ _ _ => trivial)⟩⟩ rfl rfl hl.1 rfl (lv_room (Nat.le_of_ble_eq_true rfl)) dX4_readEither_75 ⟨Nat.le_of_ble_eq_true rfl, Nat.le_of_ble_eq_true rfl⟩) hS (fun q _ h => hFc q h) hFc (fun u t H1 locs ht hvm w_754 hB hz1 hk1 hS => ?_)
    obtain ⟨ws_755, ty_756, hm_757, ht_759, hP1, hK1, hD1, hx_758⟩ := hB
    rw [ht] at hP1
    have hK := va_K.moved hvm.symm hK1
    have hD := hD1.weaken (fun _ _ _ h => hFc _ h)
    generalize H1 = H at hP1 hS ⊢
    have hP := hP1
    have e_760 := hm_757.objK e_341 (by decide)
    obtain ⟨g_762, e_761, h_763⟩ := hm_757.obj e_342
    obtain ⟨z_764, z_765, z_766, z_767, rfl⟩ := smX6 h_763
    obtain ⟨f_769, e_768⟩ := hm_757.arrI e_343
    have u_770 := ht_759 _ _ u_345
    obtain ⟨f_772, e_771⟩ := hm_757.arrI e_346
    have u_773 := ht_759 _ _ u_348
    have hsm := hsm.tr (hm_757.mono (by decide))
    have hlp_93 := hlp_93.tr (hm_757.mono (by decide))
    have htx := htx.tr ht_759
    obtain ⟨k_774, s_775, e_776, h_777, h_778, h_779, e_780⟩ := hx_758
    refine lv_aload_n hx hb dX4_readEither_78 rfl (lv_at hl 5 rfl) ?_
    refine lv_iload_n hx hb dX4_readEither_79 rfl (lv_at hl 4 rfl) ?_
    have hFc := free_all hD hS hA
    refine va_calli (va_runV (As := [.int 2]) (rest := []) ⟨hx, hb, hml, hown, hts⟩ (r_readOne2 l D ws_755 ty_756 adK adV fo rd krd tp ktp cd bb tl  H.size (⟨s_775, e_776, cc_117, ra_118, rb_119, rc_120, rv_121, re_122, nI k_774, by omega, by omega, by omega, by omega, e_760, e_780, ⟨k_130, c9_131, t_132, f_769, e_768, u_770⟩, ⟨k_136, c9_137, t_138, f_772, e_771, u_773⟩⟩ : RS ws_755 ty_756 rd krd tp ktp cd bb tl)) (cwV 1 hts gX4_readEither_X4_readOne rfl rfl rfl (by decide +kernel) ⟨Nat.le_of_ble_eq_true rfl, Nat.le_of_ble_eq_true rfl⟩) ⟨fun a U g mk q => by obtain ⟨q0, q1, qP, qK, qD, qS⟩ := q; exact ⟨q0, q1, qP, va_K.moved (u := U) (U := U.calling g mk a) (Vm.Alike.refl U.vm) qK, qD, SZ.same rfl rfl qS⟩, va_recv hK hP (ci := 4) (q0 := krd) rfl e_760, fun U hU hW => ⟨rfl, by rw [hU], by rw [hU]; exact hP, va_K.moved hW.alike hK, hD.weaken (fun _ _ _ _ => trivial), hsz9.go hS hW hU hFc⟩⟩ rfl rfl hl.1 rfl (lv_room (Nat.le_of_ble_eq_true rfl)) dX4_readEither_80 ⟨Nat.le_of_ble_eq_true rfl, Nat.le_of_ble_eq_true rfl⟩) hS (fun q _ h => hFc q h) hFc (fun r_781 u t H1 locs ht hvm w_782 hB hz1 hk1 hS => ?_)
    obtain ⟨ws_783, ty_784, hm_785, ht_787, hP1, hK1, hD1, hx_786⟩ := hB
    rw [ht] at hP1
    have hK := va_K.moved hvm.symm hK1
    have hD := hD1.weaken (fun _ _ _ h => hFc _ h)
    generalize H1 = H at hP1 hS ⊢
    have hP := hP1
    obtain ⟨g_789, e_788, h_790⟩ := hm_785.obj e_760
    obtain ⟨z_791, z_792, z_793, z_794, z_795, z_796, rfl⟩ := smX4 h_790
    obtain ⟨g_798, e_797, h_799⟩ := hm_785.obj e_780
    obtain ⟨z_800, z_801, z_802, z_803, rfl⟩ := smX6 h_799
    obtain ⟨f_805, e_804⟩ := hm_785.arrI e_768
    have u_806 := ht_787 _ _ u_770
    obtain ⟨f_808, e_807⟩ := hm_785.arrI e_771
    have u_809 := ht_787 _ _ u_773
    have hsm := hsm.tr (hm_785.mono (by decide))
    have hlp_93 := hlp_93.tr (hm_785.mono (by decide))
    have htx := htx.tr ht_787
    obtain ⟨ts_810, te_811, cc_812, ra_813, rb_814, rc_815, rv_816, re_817, ya_818, h1_819, h2_820, h3_821, h4_822, er_823, et_824, ⟨k_825, c9_826, t_827, f_828, e_829, u_830⟩, ⟨k_831, c9_832, t_833, f_834, e_835, u_836⟩⟩ := id hx_786
    refine lv_istore_n (lv' := [(2, .int r_781), (3, .int 1), (5, .int 1), (4, .int (nI i_85)), (1, .int 2), (0, .ref rd)]) hx hb dX4_readEither_83 rfl hl (by decide) rfl (fun ls hl => ?_)
    refine lv_iload hx hb dX4_readEither_84 (lv_at hl 2 rfl) ?_
    refine lv_if_eq (tgt := 95) hx hb dX4_readEither_86 (by decide) (fun c_837 => absurd c_837 (by decide)) (fun c_837 => ?_)
    refine lv_aload_n hx hb dX4_readEither_89 rfl (lv_at hl 5 rfl) ?_
    refine lv_bipush (v := (-2)) hx hb dX4_readEither_90 (by decide) ?_
    have hFc := free_all hD hS hA
    refine va_callv (va_runV (As := [.int (-2)]) (rest := []) ⟨hx, hb, hml, hown, hts⟩ (r_addCode l D ws_783 ty_784 adK adV fo rd krd tp ktp cd bb tl (-2) H.size (⟨ts_810, te_811, cc_812, ra_813, rb_814, rc_815, rv_816, re_817, ya_818, by omega, by omega, by omega, by omega, er_823, et_824, ⟨k_825, c9_826, t_827, f_828, e_829, u_830⟩, ⟨k_831, c9_832, t_833, f_834, e_835, u_836⟩⟩ : RS ws_783 ty_784 rd krd tp ktp cd bb tl)) (cwV 1 hts gX4_readEither_X4_addCode rfl rfl rfl (by decide +kernel) ⟨Nat.le_of_ble_eq_true rfl, Nat.le_of_ble_eq_true rfl⟩) ⟨fun a U g mk q => by obtain ⟨q0, q1, qP, qK, qD, qS⟩ := q; exact ⟨q0, q1, qP, va_K.moved (u := U) (U := U.calling g mk a) (Vm.Alike.refl U.vm) qK, qD, SZ.same rfl rfl qS⟩, va_recv hK hP (ci := 4) (q0 := krd) rfl er_823, fun U hU hW => ⟨rfl, by rw [hU], by rw [hU]; exact hP, va_K.moved hW.alike hK, hD.weaken (fun _ _ _ _ => trivial), hsz9.go hS hW hU hFc⟩⟩ rfl rfl hl.1 rfl (lv_room (Nat.le_of_ble_eq_true rfl)) dX4_readEither_92 ⟨Nat.le_of_ble_eq_true rfl, Nat.le_of_ble_eq_true rfl⟩) hS (fun q _ h => hFc q h) hFc (fun u t H1 locs ht hvm w_839 hB hz1 hk1 hS => ?_)
    obtain ⟨ws_840, ty_841, hm_842, ht_844, hP1, hK1, hD1, hx_843⟩ := hB
    rw [ht] at hP1
    have hK := va_K.moved hvm.symm hK1
    have hD := hD1.weaken (fun _ _ _ h => hFc _ h)
    generalize H1 = H at hP1 hS ⊢
    have hP := hP1
    obtain ⟨g_846, e_845, h_847⟩ := hm_842.obj er_823
    obtain ⟨z_848, z_849, z_850, z_851, z_852, z_853, rfl⟩ := smX4 h_847
    obtain ⟨g_855, e_854, h_856⟩ := hm_842.obj et_824
    obtain ⟨z_857, z_858, z_859, z_860, rfl⟩ := smX6 h_856
    obtain ⟨f_862, e_861⟩ := hm_842.arrI e_829
    have u_863 := ht_844 _ _ u_830
    obtain ⟨f_865, e_864⟩ := hm_842.arrI e_835
    have u_866 := ht_844 _ _ u_836
    have hsm := hsm.tr (hm_842.mono (by decide))
    have hlp_93 := hlp_93.tr (hm_842.mono (by decide))
    have htx := htx.tr ht_844
    obtain ⟨ts_867, te_868, cc_869, ra_870, rb_871, rc_872, rv_873, re_874, ya_875, h1_876, h2_877, h3_878, h4_879, er_880, et_881, ⟨k_882, c9_883, t_884, f_885, e_886, u_887⟩, ⟨k_888, c9_889, t_890, f_891, e_892, u_893⟩⟩ := id hx_843
    refine lv_iinc (v := nI (i_85 + 1)) (lv' := [(4, .int (nI (i_85 + 1))), (2, .int r_781), (3, .int 1), (5, .int 1), (1, .int 2), (0, .ref rd)]) hx hb dX4_readEither_95 hl (k := 3) rfl (nI_add i_85 1) (by decide) rfl (fun ls hl => ?_)
    refine lv_goto (tgt := 11) hx hb dX4_readEither_98 (by decide) ?_
    exact ih_84 (i_85 + 1, r_781, 1) ws_840 _ _ ls (by show 400 - (i_85 + 1) < 400 - i_85; omega) ⟨hlp_93, (⟨ts_867, te_868, cc_869, ra_870, rb_871, rc_872, rv_873, re_874, ya_875, by omega, by omega, by omega, by omega, er_880, et_881, ⟨k_882, c9_883, t_884, f_885, e_886, u_887⟩, ⟨k_888, c9_889, t_890, f_891, e_892, u_893⟩⟩ : RS ws_840 ty_841 rd krd tp ktp cd bb tl), (show (i_85 + 1) ≤ 400 from by omega), (show r_781 = 0 ∨ r_781 = 1 from w_782), (show 1 = 0 ∨ 1 = 1 from Or.inr rfl)⟩ hP hD hS (lv_sub hl [0, 1, 2, 4, 5] rfl)
  refine lv_iload hx hb dX4_readEither_60 (lv_at hl 0 rfl) ?_
  refine lv_if_ne (tgt := 69) hx hb dX4_readEither_62 (by decide) (fun c_894 => ?_) (fun c_894 => absurd c_894 (by decide))
  refine lv_iconst (v := 0) hx hb dX4_readEither_69 (by decide) ?_
  refine lv_istore_n (lv' := [(3, .int 0), (5, .int 1), (4, .int (nI i_85)), (2, .int x_86), (1, .int 2), (0, .ref rd)]) hx hb dX4_readEither_70 rfl hl (by decide) rfl (fun ls hl => ?_)
  refine lv_aload_n hx hb dX4_readEither_71 rfl (lv_at hl 5 rfl) ?_
  refine va_get (D := D) (ci := 4) (v := .ref tp) (C := RX4) (T := TX4) (N := 8) hx hb hts hin4 hown hK hP krd e_341 rfl 0 (by decide) (hts (.fieldLink RX4 12 "HoneyHouse$RuleReader" "tape" "LHoneyHouse$Tape;") (List.mem_of_getElem? (i := 1) rfl)) (fun _ h9 => h9) rfl dX4_readEither_72 ?_
  have hFc := free_all hD hS hA
  refine va_callv (va_runV (As := []) (rest := []) ⟨hx, hb, hml, hown, hts⟩ (a_advance l D ws_336 ty_337 tp ktp tl te_116 ya_123 (nI ts_115) bb k_136 c9_137 t_138 f_347 H.size (by omega) (by omega) e_342 e_346 u_348) (cwV 0 hts gX4_readEither_X6_advance rfl rfl rfl (by decide +kernel) ⟨Nat.le_of_ble_eq_true rfl, Nat.le_of_ble_eq_true rfl⟩) ⟨fun a U g mk q => by obtain ⟨q0, q1, qP, qK, qD⟩ := q; exact ⟨q0, q1, qP, va_K.moved (u := U) (U := U.calling g mk a) (Vm.Alike.refl U.vm) qK, qD⟩, va_recv hK hP (ci := 6) (q0 := ktp) rfl e_342, fun U hU hW => ⟨rfl, by rw [hU], by rw [hU]; exact hP, va_K.moved hW.alike hK, hD.weaken (fun _ _ _ _ => trivial)⟩⟩ rfl rfl hl.1 rfl (lv_room (Nat.le_of_ble_eq_true rfl)) dX4_readEither_75 ⟨Nat.le_of_ble_eq_true rfl, Nat.le_of_ble_eq_true rfl⟩) hS (fun q _ h => hFc q h) hFc (fun u t H1 locs ht hvm w_896 hB hz1 hk1 hS => ?_)
  obtain ⟨ws_897, ty_898, hm_899, ht_901, hP1, hK1, hD1, hx_900⟩ := hB
  rw [ht] at hP1
  have hK := va_K.moved hvm.symm hK1
  have hD := hD1.weaken (fun _ _ _ h => hFc _ h)
  generalize H1 = H at hP1 hS ⊢
  have hP := hP1
  have e_902 := hm_899.objK e_341 (by decide)
  obtain ⟨g_904, e_903, h_905⟩ := hm_899.obj e_342
  obtain ⟨z_906, z_907, z_908, z_909, rfl⟩ := smX6 h_905
  obtain ⟨f_911, e_910⟩ := hm_899.arrI e_343
  have u_912 := ht_901 _ _ u_345
  obtain ⟨f_914, e_913⟩ := hm_899.arrI e_346
  have u_915 := ht_901 _ _ u_348
  have hsm := hsm.tr (hm_899.mono (by decide))
  have hlp_93 := hlp_93.tr (hm_899.mono (by decide))
  have htx := htx.tr ht_901
  obtain ⟨k_916, s_917, e_918, h_919, h_920, h_921, e_922⟩ := hx_900
  refine lv_aload_n hx hb dX4_readEither_78 rfl (lv_at hl 5 rfl) ?_
  refine lv_iload_n hx hb dX4_readEither_79 rfl (lv_at hl 4 rfl) ?_
  have hFc := free_all hD hS hA
  refine va_calli (va_runV (As := [.int 2]) (rest := []) ⟨hx, hb, hml, hown, hts⟩ (r_readOne2 l D ws_897 ty_898 adK adV fo rd krd tp ktp cd bb tl  H.size (⟨s_917, e_918, cc_117, ra_118, rb_119, rc_120, rv_121, re_122, nI k_916, by omega, by omega, by omega, by omega, e_902, e_922, ⟨k_130, c9_131, t_132, f_911, e_910, u_912⟩, ⟨k_136, c9_137, t_138, f_914, e_913, u_915⟩⟩ : RS ws_897 ty_898 rd krd tp ktp cd bb tl)) (cwV 1 hts gX4_readEither_X4_readOne rfl rfl rfl (by decide +kernel) ⟨Nat.le_of_ble_eq_true rfl, Nat.le_of_ble_eq_true rfl⟩) ⟨fun a U g mk q => by obtain ⟨q0, q1, qP, qK, qD, qS⟩ := q; exact ⟨q0, q1, qP, va_K.moved (u := U) (U := U.calling g mk a) (Vm.Alike.refl U.vm) qK, qD, SZ.same rfl rfl qS⟩, va_recv hK hP (ci := 4) (q0 := krd) rfl e_902, fun U hU hW => ⟨rfl, by rw [hU], by rw [hU]; exact hP, va_K.moved hW.alike hK, hD.weaken (fun _ _ _ _ => trivial), hsz9.go hS hW hU hFc⟩⟩ rfl rfl hl.1 rfl (lv_room (Nat.le_of_ble_eq_true rfl)) dX4_readEither_80 ⟨Nat.le_of_ble_eq_true rfl, Nat.le_of_ble_eq_true rfl⟩) hS (fun q _ h => hFc q h) hFc (fun r_923 u t H1 locs ht hvm w_924 hB hz1 hk1 hS => ?_)
  obtain ⟨ws_925, ty_926, hm_927, ht_929, hP1, hK1, hD1, hx_928⟩ := hB
  rw [ht] at hP1
  have hK := va_K.moved hvm.symm hK1
  have hD := hD1.weaken (fun _ _ _ h => hFc _ h)
  generalize H1 = H at hP1 hS ⊢
  have hP := hP1
  obtain ⟨g_931, e_930, h_932⟩ := hm_927.obj e_902
  obtain ⟨z_933, z_934, z_935, z_936, z_937, z_938, rfl⟩ := smX4 h_932
  obtain ⟨g_940, e_939, h_941⟩ := hm_927.obj e_922
  obtain ⟨z_942, z_943, z_944, z_945, rfl⟩ := smX6 h_941
  obtain ⟨f_947, e_946⟩ := hm_927.arrI e_910
  have u_948 := ht_929 _ _ u_912
  obtain ⟨f_950, e_949⟩ := hm_927.arrI e_913
  have u_951 := ht_929 _ _ u_915
  have hsm := hsm.tr (hm_927.mono (by decide))
  have hlp_93 := hlp_93.tr (hm_927.mono (by decide))
  have htx := htx.tr ht_929
  obtain ⟨ts_952, te_953, cc_954, ra_955, rb_956, rc_957, rv_958, re_959, ya_960, h1_961, h2_962, h3_963, h4_964, er_965, et_966, ⟨k_967, c9_968, t_969, f_970, e_971, u_972⟩, ⟨k_973, c9_974, t_975, f_976, e_977, u_978⟩⟩ := id hx_928
  refine lv_istore_n (lv' := [(2, .int r_923), (3, .int 0), (5, .int 1), (4, .int (nI i_85)), (1, .int 2), (0, .ref rd)]) hx hb dX4_readEither_83 rfl hl (by decide) rfl (fun ls hl => ?_)
  refine lv_iload hx hb dX4_readEither_84 (lv_at hl 2 rfl) ?_
  refine lv_if_eq (tgt := 95) hx hb dX4_readEither_86 (by decide) (fun c_979 => absurd c_979 (by decide)) (fun c_979 => ?_)
  refine lv_aload_n hx hb dX4_readEither_89 rfl (lv_at hl 5 rfl) ?_
  refine lv_bipush (v := (-2)) hx hb dX4_readEither_90 (by decide) ?_
  have hFc := free_all hD hS hA
  refine va_callv (va_runV (As := [.int (-2)]) (rest := []) ⟨hx, hb, hml, hown, hts⟩ (r_addCode l D ws_925 ty_926 adK adV fo rd krd tp ktp cd bb tl (-2) H.size (⟨ts_952, te_953, cc_954, ra_955, rb_956, rc_957, rv_958, re_959, ya_960, by omega, by omega, by omega, by omega, er_965, et_966, ⟨k_967, c9_968, t_969, f_970, e_971, u_972⟩, ⟨k_973, c9_974, t_975, f_976, e_977, u_978⟩⟩ : RS ws_925 ty_926 rd krd tp ktp cd bb tl)) (cwV 1 hts gX4_readEither_X4_addCode rfl rfl rfl (by decide +kernel) ⟨Nat.le_of_ble_eq_true rfl, Nat.le_of_ble_eq_true rfl⟩) ⟨fun a U g mk q => by obtain ⟨q0, q1, qP, qK, qD, qS⟩ := q; exact ⟨q0, q1, qP, va_K.moved (u := U) (U := U.calling g mk a) (Vm.Alike.refl U.vm) qK, qD, SZ.same rfl rfl qS⟩, va_recv hK hP (ci := 4) (q0 := krd) rfl er_965, fun U hU hW => ⟨rfl, by rw [hU], by rw [hU]; exact hP, va_K.moved hW.alike hK, hD.weaken (fun _ _ _ _ => trivial), hsz9.go hS hW hU hFc⟩⟩ rfl rfl hl.1 rfl (lv_room (Nat.le_of_ble_eq_true rfl)) dX4_readEither_92 ⟨Nat.le_of_ble_eq_true rfl, Nat.le_of_ble_eq_true rfl⟩) hS (fun q _ h => hFc q h) hFc (fun u t H1 locs ht hvm w_981 hB hz1 hk1 hS => ?_)
  obtain ⟨ws_982, ty_983, hm_984, ht_986, hP1, hK1, hD1, hx_985⟩ := hB
  rw [ht] at hP1
  have hK := va_K.moved hvm.symm hK1
  have hD := hD1.weaken (fun _ _ _ h => hFc _ h)
  generalize H1 = H at hP1 hS ⊢
  have hP := hP1
  obtain ⟨g_988, e_987, h_989⟩ := hm_984.obj er_965
  obtain ⟨z_990, z_991, z_992, z_993, z_994, z_995, rfl⟩ := smX4 h_989
  obtain ⟨g_997, e_996, h_998⟩ := hm_984.obj et_966
  obtain ⟨z_999, z_1000, z_1001, z_1002, rfl⟩ := smX6 h_998
  obtain ⟨f_1004, e_1003⟩ := hm_984.arrI e_971
  have u_1005 := ht_986 _ _ u_972
  obtain ⟨f_1007, e_1006⟩ := hm_984.arrI e_977
  have u_1008 := ht_986 _ _ u_978
  have hsm := hsm.tr (hm_984.mono (by decide))
  have hlp_93 := hlp_93.tr (hm_984.mono (by decide))
  have htx := htx.tr ht_986
  obtain ⟨ts_1009, te_1010, cc_1011, ra_1012, rb_1013, rc_1014, rv_1015, re_1016, ya_1017, h1_1018, h2_1019, h3_1020, h4_1021, er_1022, et_1023, ⟨k_1024, c9_1025, t_1026, f_1027, e_1028, u_1029⟩, ⟨k_1030, c9_1031, t_1032, f_1033, e_1034, u_1035⟩⟩ := id hx_985
  refine lv_iinc (v := nI (i_85 + 1)) (lv' := [(4, .int (nI (i_85 + 1))), (2, .int r_923), (3, .int 0), (5, .int 1), (1, .int 2), (0, .ref rd)]) hx hb dX4_readEither_95 hl (k := 3) rfl (nI_add i_85 1) (by decide) rfl (fun ls hl => ?_)
  refine lv_goto (tgt := 11) hx hb dX4_readEither_98 (by decide) ?_
  exact ih_84 (i_85 + 1, r_923, 0) ws_982 _ _ ls (by show 400 - (i_85 + 1) < 400 - i_85; omega) ⟨hlp_93, (⟨ts_1009, te_1010, cc_1011, ra_1012, rb_1013, rc_1014, rv_1015, re_1016, ya_1017, by omega, by omega, by omega, by omega, er_1022, et_1023, ⟨k_1024, c9_1025, t_1026, f_1027, e_1028, u_1029⟩, ⟨k_1030, c9_1031, t_1032, f_1033, e_1034, u_1035⟩⟩ : RS ws_982 ty_983 rd krd tp ktp cd bb tl), (show (i_85 + 1) ≤ 400 from by omega), (show r_923 = 0 ∨ r_923 = 1 from w_924), (show 0 = 0 ∨ 0 = 1 from Or.inl rfl)⟩ hP hD hS (lv_sub hl [0, 1, 2, 4, 5] rfl)
set_option maxHeartbeats 4000000 in
set_option maxRecDepth 100000 in
theorem r_readOne1 (l : Launch) (D : va_G) (ws : va_W) (tys : List (ClassId × FieldType)) (adK adV : Nat → Nat) (fo : Option Nat) (rd krd tp ktp cd bb tl : Nat)  (sz : Nat) (R0 : RS ws tys rd krd tp ktp cd bb tl)  : Met l yX4_readOne wsX4_readOne ({ frames := 17, cells := 0, slots := 0, locals := 389 }) (va_Pc [.ref rd, .int 1] (fun U => U.heap.size = sz ∧ va_P D vwCl ws U.heap ∧ va_K D vwCl tys U ∧ va_D (fun _ => True) ws ∧ SZ adK adV fo (va_A ws sz) U U.heap)) (va_Qi (fun (r : Int32) (_ : Unit) => r = 0 ∨ r = 1) (fun (_ : Unit) (t : State) => ∃ (ws' : va_W) (tys' : List (ClassId × FieldType)), sm [4, 6] ws ws' ∧ tyx tys tys' ∧ va_P D vwCl ws' t.heap ∧ va_K D vwCl tys' t ∧ va_D (va_A ws sz) ws' ∧ RS ws' tys' rd krd tp ktp cd bb tl) (va_A ws sz)) 0 0 (va_A ws sz) := by
  refine Met.ofW (cc := cX4_readOne) (maxL := 4) (ret := (some .boolean)) (by decide) rfl ?_
  intro p e s m args below meth c s₁ B hml hv
  obtain ⟨rfl, hsz, hP, hK, hD0, hsz9⟩ := hv
  have hx := B.exec
  have hb := B.bytes
  have hr := B.returns
  have hts := atoms_spec (ws := wsX4_readOne) B.pre
  have hown : s.vm.findClass RX4 = some m.cls := findClass_of_methodNamed B.named
  have hlocks := B.notSynchronized
  subst hsz
  have hD := hD0.self (sz := s.heap.size)
  generalize hAe : va_A ws s.heap.size = A at hD hsz9 ⊢
  have hA : ∀ q : Nat, s.heap.size ≤ q → A q := fun q h => by rw [← hAe]; exact Or.inr h
  have hS : va_S A s.heap s.heap [] := va_S.rf
  have hsm : sm [4, 6] ws ws := sm.rf ws
  have htx : tyx tys tys := tyx.rf tys
  have hin4 : ∀ w ∈ u_ws RX4 TX4 8, w ∈ wsX4_readOne := (fun _ h9 => List.mem_cons_of_mem _ (List.mem_append_left _ ((List.mem_append_right _ h9))))
  have hl := lv_entry ([.ref rd, .int 1]) (n := 4) (Nat.le_of_ble_eq_true rfl)
  rw [lg_entry_eq]
  generalize (lg_sl ([.ref rd, .int 1]) ++ List.replicate (4 - (lg_sl ([.ref rd, .int 1])).length) Slot.unset).toArray = ls at hl ⊢
  have hl : lv_has ls 4 [(0, .ref rd), (1, .int 1)] := hl
  obtain ⟨ts_1, te_2, cc_3, ra_4, rb_5, rc_6, rv_7, re_8, ya_9, h1_10, h2_11, h3_12, h4_13, er_14, et_15, ⟨k_16, c9_17, t_18, f_19, e_20, u_21⟩, ⟨k_22, c9_23, t_24, f_25, e_26, u_27⟩⟩ := id R0
  refine lv_aload_n hx hb dX4_readOne_0 rfl (lv_at hl 0 rfl) ?_
  refine va_get (D := D) (ci := 4) (v := .ref tp) (C := RX4) (T := TX4) (N := 8) hx hb hts hin4 hown hK hP krd er_14 rfl 0 (by decide) (hts (.fieldLink RX4 12 "HoneyHouse$RuleReader" "tape" "LHoneyHouse$Tape;") (List.mem_of_getElem? (i := 1) rfl)) (fun _ h9 => h9) rfl dX4_readOne_1 ?_
  refine va_ldcS hx hb hown hsz9.2.2.2.2.2.2.1 dX4_readOne_4 ?_
  have hFc := free_all hD hS hA
  refine va_calli (va_runV (As := [.ref (adK 3)]) (rest := []) ⟨hx, hb, hml, hown, hts⟩ (a_isWord l D ws tys adK adV fo 3 tp ktp tl ya_9 (nI ts_1) (nI te_2) bb k_22 c9_23 t_24 f_25 s.heap.size (by decide) et_15 e_26 u_27) (cwV 1 hts gX4_readOne_X6_isWord rfl rfl rfl (by decide +kernel) ⟨Nat.le_of_ble_eq_true rfl, Nat.le_of_ble_eq_true rfl⟩) ⟨fun a U g mk q => by obtain ⟨q0, q1, qP, qK, qD, qS⟩ := q; exact ⟨q0, q1, qP, va_K.moved (u := U) (U := U.calling g mk a) (Vm.Alike.refl U.vm) qK, qD, SZ.same rfl rfl qS⟩, va_recv hK hP (ci := 6) (q0 := ktp) rfl et_15, fun U hU hW => ⟨rfl, by rw [hU], by rw [hU]; exact hP, va_K.moved hW.alike hK, hD.weaken (fun _ _ _ _ => trivial), hsz9.go hS hW hU hFc⟩⟩ rfl rfl hl.1 rfl (lv_room (Nat.le_of_ble_eq_true rfl)) dX4_readOne_6 ⟨Nat.le_of_ble_eq_true rfl, Nat.le_of_ble_eq_true rfl⟩) hS (fun q _ h => hFc q h) hFc (fun r_28 u t H1 locs ht hvm w_29 hB hz1 hk1 hS => ?_)
  obtain ⟨ws_30, ty_31, hm_32, ht_34, hP1, hK1, hD1, hx_33⟩ := hB
  rw [ht] at hP1
  have hK := va_K.moved hvm.symm hK1
  have hD := hD1.weaken (fun _ _ _ h => hFc _ h)
  generalize H1 = H at hP1 hS ⊢
  have hP := hP1
  have e_35 := hm_32.objK er_14 (by decide)
  have e_36 := hm_32.objK et_15 (by decide)
  obtain ⟨f_38, e_37⟩ := hm_32.arrI e_20
  have u_39 := ht_34 _ _ u_21
  obtain ⟨f_41, e_40⟩ := hm_32.arrI e_26
  have u_42 := ht_34 _ _ u_27
  have hsm := hsm.tr (hm_32.mono (by decide))
  have htx := htx.tr ht_34
  rcases w_29 with rfl | rfl
  · refine lv_istore_n (lv' := [(2, .int 0), (0, .ref rd), (1, .int 1)]) hx hb dX4_readOne_9 rfl hl (by decide) rfl (fun ls hl => ?_)
    refine lv_iload_n hx hb dX4_readOne_10 rfl (lv_at hl 0 rfl) ?_
    refine lv_if_ne (tgt := 31) hx hb dX4_readOne_11 (by decide) (fun c_43 => absurd (by decide) c_43) (fun c_43 => ?_)
    refine lv_aload_n hx hb dX4_readOne_14 rfl (lv_at hl 1 rfl) ?_
    refine va_get (D := D) (ci := 4) (v := .ref tp) (C := RX4) (T := TX4) (N := 8) hx hb hts hin4 hown hK hP krd e_35 rfl 0 (by decide) (hts (.fieldLink RX4 12 "HoneyHouse$RuleReader" "tape" "LHoneyHouse$Tape;") (List.mem_of_getElem? (i := 1) rfl)) (fun _ h9 => h9) rfl dX4_readOne_15 ?_
    refine lv_bipush (v := 40) hx hb dX4_readOne_18 (by decide) ?_
    refine vp_callSi (W.runV (As := [.int 40]) (rest := []) ⟨hx, hb, hml, hown, hts⟩ (s_isByte l D ws_30 ty_31 tp ktp tl ya_9 (nI ts_1) (nI te_2) bb k_22 c9_23 t_24 f_41 40 e_36 e_40 u_42) (cwV 1 hts gX4_readOne_X6_isByte rfl rfl rfl (by decide +kernel) ⟨Nat.le_of_ble_eq_true rfl, Nat.le_of_ble_eq_true rfl⟩) ⟨fun a U g mk q => ⟨q.1, q.2.1, va_K.moved (u := U) (U := U.calling g mk a) (Vm.Alike.refl U.vm) q.2.2⟩, va_recv hK hP (ci := 6) (q0 := ktp) rfl e_36, fun U hU hW => ⟨rfl, by rw [hU]; exact hP, va_K.moved hW.alike hK⟩⟩ rfl rfl hl.1 rfl (lv_room (Nat.le_of_ble_eq_true rfl)) dX4_readOne_20 ⟨Nat.le_of_ble_eq_true rfl, Nat.le_of_ble_eq_true rfl⟩) (fun r_44 k_45 => ?_)
    rcases k_45 with rfl | rfl
    · refine lv_if_ne (tgt := 31) hx hb dX4_readOne_23 (by decide) (fun c_46 => absurd (by decide) c_46) (fun c_46 => ?_)
      refine lv_aload_n hx hb dX4_readOne_26 rfl (lv_at hl 1 rfl) ?_
      have hFc := free_all hD hS hA
      refine va_calli (va_runV (As := []) (rest := []) ⟨hx, hb, hml, hown, hts⟩ (r_readTest l D ws_30 ty_31 adK adV fo rd krd tp ktp cd bb tl  H.size (⟨ts_1, te_2, cc_3, ra_4, rb_5, rc_6, rv_7, re_8, ya_9, by omega, by omega, by omega, by omega, e_35, e_36, ⟨k_16, c9_17, t_18, f_38, e_37, u_39⟩, ⟨k_22, c9_23, t_24, f_41, e_40, u_42⟩⟩ : RS ws_30 ty_31 rd krd tp ktp cd bb tl)) (cwV 0 hts gX4_readOne_X4_readTest rfl rfl rfl (by decide +kernel) ⟨Nat.le_of_ble_eq_true rfl, Nat.le_of_ble_eq_true rfl⟩) ⟨fun a U g mk q => by obtain ⟨q0, q1, qP, qK, qD, qS⟩ := q; exact ⟨q0, q1, qP, va_K.moved (u := U) (U := U.calling g mk a) (Vm.Alike.refl U.vm) qK, qD, SZ.same rfl rfl qS⟩, va_recv hK hP (ci := 4) (q0 := krd) rfl e_35, fun U hU hW => ⟨rfl, by rw [hU], by rw [hU]; exact hP, va_K.moved hW.alike hK, hD.weaken (fun _ _ _ _ => trivial), hsz9.go hS hW hU hFc⟩⟩ rfl rfl hl.1 rfl (lv_room (Nat.le_of_ble_eq_true rfl)) dX4_readOne_27 ⟨Nat.le_of_ble_eq_true rfl, Nat.le_of_ble_eq_true rfl⟩) hS (fun q _ h => hFc q h) hFc (fun r_47 u t H1 locs ht hvm w_48 hB hz1 hk1 hS => ?_)
      obtain ⟨ws_49, ty_50, hm_51, ht_53, hP1, hK1, hD1, hx_52⟩ := hB
      rw [ht] at hP1
      have hK := va_K.moved hvm.symm hK1
      have hD := hD1.weaken (fun _ _ _ h => hFc _ h)
      generalize H1 = H at hP1 hS ⊢
      have hP := hP1
      obtain ⟨g_55, e_54, h_56⟩ := hm_51.obj e_35
      obtain ⟨z_57, z_58, z_59, z_60, z_61, z_62, rfl⟩ := smX4 h_56
      obtain ⟨g_64, e_63, h_65⟩ := hm_51.obj e_36
      obtain ⟨z_66, z_67, z_68, z_69, rfl⟩ := smX6 h_65
      obtain ⟨f_71, e_70⟩ := hm_51.arrI e_37
      have u_72 := ht_53 _ _ u_39
      obtain ⟨f_74, e_73⟩ := hm_51.arrI e_40
      have u_75 := ht_53 _ _ u_42
      have hsm := hsm.tr (hm_51.mono (by decide))
      have htx := htx.tr ht_53
      obtain ⟨ts_76, te_77, cc_78, ra_79, rb_80, rc_81, rv_82, re_83, ya_84, h1_85, h2_86, h3_87, h4_88, er_89, et_90, ⟨k_91, c9_92, t_93, f_94, e_95, u_96⟩, ⟨k_97, c9_98, t_99, f_100, e_101, u_102⟩⟩ := id hx_52
      exact W.zret (v := r_47) hx hb hr (by rcases w_48 with h9 | h9 <;> rw [h9] <;> rfl) (fun t ht hW => ⟨⟨r_47, (), rfl, w_48, ws_49, ty_50, hsm, htx, by rw [ht]; exact hP, va_K.moved hW.alike hK, hD, (⟨ts_76, te_77, cc_78, ra_79, rb_80, rc_81, rv_82, re_83, ya_84, by omega, by omega, by omega, by omega, er_89, et_90, ⟨k_91, c9_92, t_93, f_94, e_95, u_96⟩, ⟨k_97, c9_98, t_99, f_100, e_101, u_102⟩⟩ : RS ws_49 ty_50 rd krd tp ktp cd bb tl)⟩, hS.F ht⟩) hS.2.2 dX4_readOne_30
    refine lv_if_ne (tgt := 31) hx hb dX4_readOne_23 (by decide) (fun c_103 => ?_) (fun c_103 => absurd c_103 (by decide))
    refine lv_iload_n hx hb dX4_readOne_31 rfl (lv_at hl 2 rfl) ?_
    refine lv_bipush (v := 6) hx hb dX4_readOne_32 (by decide) ?_
    refine lv_icmp_lt (tgt := 50) hx hb dX4_readOne_34 (by decide) (fun c_104 => ?_) (fun c_104 => absurd (by decide) c_104)
    refine lv_aload_n hx hb dX4_readOne_50 rfl (lv_at hl 1 rfl) ?_
    refine va_get (D := D) (ci := 4) (v := .ref tp) (C := RX4) (T := TX4) (N := 8) hx hb hts hin4 hown hK hP krd e_35 rfl 0 (by decide) (hts (.fieldLink RX4 12 "HoneyHouse$RuleReader" "tape" "LHoneyHouse$Tape;") (List.mem_of_getElem? (i := 1) rfl)) (fun _ h9 => h9) rfl dX4_readOne_51 ?_
    have hFc := free_all hD hS hA
    refine va_callv (va_runV (As := []) (rest := []) ⟨hx, hb, hml, hown, hts⟩ (a_advance l D ws_30 ty_31 tp ktp tl te_2 ya_9 (nI ts_1) bb k_22 c9_23 t_24 f_41 H.size (by omega) (by omega) e_36 e_40 u_42) (cwV 0 hts gX4_readOne_X6_advance rfl rfl rfl (by decide +kernel) ⟨Nat.le_of_ble_eq_true rfl, Nat.le_of_ble_eq_true rfl⟩) ⟨fun a U g mk q => by obtain ⟨q0, q1, qP, qK, qD⟩ := q; exact ⟨q0, q1, qP, va_K.moved (u := U) (U := U.calling g mk a) (Vm.Alike.refl U.vm) qK, qD⟩, va_recv hK hP (ci := 6) (q0 := ktp) rfl e_36, fun U hU hW => ⟨rfl, by rw [hU], by rw [hU]; exact hP, va_K.moved hW.alike hK, hD.weaken (fun _ _ _ _ => trivial)⟩⟩ rfl rfl hl.1 rfl (lv_room (Nat.le_of_ble_eq_true rfl)) dX4_readOne_54 ⟨Nat.le_of_ble_eq_true rfl, Nat.le_of_ble_eq_true rfl⟩) hS (fun q _ h => hFc q h) hFc (fun u t H1 locs ht hvm w_106 hB hz1 hk1 hS => ?_)
    obtain ⟨ws_107, ty_108, hm_109, ht_111, hP1, hK1, hD1, hx_110⟩ := hB
    rw [ht] at hP1
    have hK := va_K.moved hvm.symm hK1
    have hD := hD1.weaken (fun _ _ _ h => hFc _ h)
    generalize H1 = H at hP1 hS ⊢
    have hP := hP1
    have e_112 := hm_109.objK e_35 (by decide)
    obtain ⟨g_114, e_113, h_115⟩ := hm_109.obj e_36
    obtain ⟨z_116, z_117, z_118, z_119, rfl⟩ := smX6 h_115
    obtain ⟨f_121, e_120⟩ := hm_109.arrI e_37
    have u_122 := ht_111 _ _ u_39
    obtain ⟨f_124, e_123⟩ := hm_109.arrI e_40
    have u_125 := ht_111 _ _ u_42
    have hsm := hsm.tr (hm_109.mono (by decide))
    have htx := htx.tr ht_111
    obtain ⟨k_126, s_127, e_128, h_129, h_130, h_131, e_132⟩ := hx_110
    refine lv_iload_n hx hb dX4_readOne_57 rfl (lv_at hl 0 rfl) ?_
    refine lv_if_ne (tgt := 86) hx hb dX4_readOne_58 (by decide) (fun c_133 => absurd (by decide) c_133) (fun c_133 => ?_)
    refine lv_aload_n hx hb dX4_readOne_61 rfl (lv_at hl 1 rfl) ?_
    refine lv_iload_n hx hb dX4_readOne_62 rfl (lv_at hl 2 rfl) ?_
    refine lv_iconst (v := 1) hx hb dX4_readOne_63 (by decide) ?_
    refine lv_iadd hx hb dX4_readOne_64 ?_
    refine tp_i (y := 2) (by decide) ?_
    have hFc := free_all hD hS hA
    refine va_calli (va_runV (As := [.int 2]) (rest := []) ⟨hx, hb, hml, hown, hts⟩ (r_readEither2 l D ws_107 ty_108 adK adV fo rd krd tp ktp cd bb tl  H.size (⟨s_127, e_128, cc_3, ra_4, rb_5, rc_6, rv_7, re_8, nI k_126, by omega, by omega, by omega, by omega, e_112, e_132, ⟨k_16, c9_17, t_18, f_121, e_120, u_122⟩, ⟨k_22, c9_23, t_24, f_124, e_123, u_125⟩⟩ : RS ws_107 ty_108 rd krd tp ktp cd bb tl)) (cwV 1 hts gX4_readOne_X4_readEither rfl rfl rfl (by decide +kernel) ⟨Nat.le_of_ble_eq_true rfl, Nat.le_of_ble_eq_true rfl⟩) ⟨fun a U g mk q => by obtain ⟨q0, q1, qP, qK, qD, qS⟩ := q; exact ⟨q0, q1, qP, va_K.moved (u := U) (U := U.calling g mk a) (Vm.Alike.refl U.vm) qK, qD, SZ.same rfl rfl qS⟩, va_recv hK hP (ci := 4) (q0 := krd) rfl e_112, fun U hU hW => ⟨rfl, by rw [hU], by rw [hU]; exact hP, va_K.moved hW.alike hK, hD.weaken (fun _ _ _ _ => trivial), hsz9.go hS hW hU hFc⟩⟩ rfl rfl hl.1 rfl (lv_room (Nat.le_of_ble_eq_true rfl)) dX4_readOne_65 ⟨Nat.le_of_ble_eq_true rfl, Nat.le_of_ble_eq_true rfl⟩) hS (fun q _ h => hFc q h) hFc (fun r_134 u t H1 locs ht hvm w_135 hB hz1 hk1 hS => ?_)
    obtain ⟨ws_136, ty_137, hm_138, ht_140, hP1, hK1, hD1, hx_139⟩ := hB
    rw [ht] at hP1
    have hK := va_K.moved hvm.symm hK1
    have hD := hD1.weaken (fun _ _ _ h => hFc _ h)
    generalize H1 = H at hP1 hS ⊢
    have hP := hP1
    obtain ⟨g_142, e_141, h_143⟩ := hm_138.obj e_112
    obtain ⟨z_144, z_145, z_146, z_147, z_148, z_149, rfl⟩ := smX4 h_143
    obtain ⟨g_151, e_150, h_152⟩ := hm_138.obj e_132
    obtain ⟨z_153, z_154, z_155, z_156, rfl⟩ := smX6 h_152
    obtain ⟨f_158, e_157⟩ := hm_138.arrI e_120
    have u_159 := ht_140 _ _ u_122
    obtain ⟨f_161, e_160⟩ := hm_138.arrI e_123
    have u_162 := ht_140 _ _ u_125
    have hsm := hsm.tr (hm_138.mono (by decide))
    have htx := htx.tr ht_140
    obtain ⟨ts_163, te_164, cc_165, ra_166, rb_167, rc_168, rv_169, re_170, ya_171, h1_172, h2_173, h3_174, h4_175, er_176, et_177, ⟨k_178, c9_179, t_180, f_181, e_182, u_183⟩, ⟨k_184, c9_185, t_186, f_187, e_188, u_189⟩⟩ := id hx_139
    refine lv_if_eq (tgt := 84) hx hb dX4_readOne_68 (by decide) (fun c_190 => ?_) (fun c_190 => ?_)
    · refine lv_iconst (v := 0) hx hb dX4_readOne_84 (by decide) ?_
      exact W.zret (v := 0) hx hb hr rfl (fun t ht hW => ⟨⟨0, (), rfl, Or.inl rfl, ws_136, ty_137, hsm, htx, by rw [ht]; exact hP, va_K.moved hW.alike hK, hD, (⟨ts_163, te_164, cc_165, ra_166, rb_167, rc_168, rv_169, re_170, ya_171, by omega, by omega, by omega, by omega, er_176, et_177, ⟨k_178, c9_179, t_180, f_181, e_182, u_183⟩, ⟨k_184, c9_185, t_186, f_187, e_188, u_189⟩⟩ : RS ws_136 ty_137 rd krd tp ktp cd bb tl)⟩, hS.F ht⟩) hS.2.2 dX4_readOne_85
    refine lv_aload_n hx hb dX4_readOne_71 rfl (lv_at hl 1 rfl) ?_
    refine lv_bipush (v := 41) hx hb dX4_readOne_72 (by decide) ?_
    have hFc := free_all hD hS hA
    refine va_calli (va_runV (As := [.int 41]) (rest := []) ⟨hx, hb, hml, hown, hts⟩ (r_readByte l D ws_136 ty_137 adK adV fo rd krd tp ktp cd bb tl 41 H.size (⟨ts_163, te_164, cc_165, ra_166, rb_167, rc_168, rv_169, re_170, ya_171, by omega, by omega, by omega, by omega, er_176, et_177, ⟨k_178, c9_179, t_180, f_181, e_182, u_183⟩, ⟨k_184, c9_185, t_186, f_187, e_188, u_189⟩⟩ : RS ws_136 ty_137 rd krd tp ktp cd bb tl)) (cwV 1 hts gX4_readOne_X4_readByte rfl rfl rfl (by decide +kernel) ⟨Nat.le_of_ble_eq_true rfl, Nat.le_of_ble_eq_true rfl⟩) ⟨fun a U g mk q => by obtain ⟨q0, q1, qP, qK, qD, qS⟩ := q; exact ⟨q0, q1, qP, va_K.moved (u := U) (U := U.calling g mk a) (Vm.Alike.refl U.vm) qK, qD, SZ.same rfl rfl qS⟩, va_recv hK hP (ci := 4) (q0 := krd) rfl er_176, fun U hU hW => ⟨rfl, by rw [hU], by rw [hU]; exact hP, va_K.moved hW.alike hK, hD.weaken (fun _ _ _ _ => trivial), hsz9.go hS hW hU hFc⟩⟩ rfl rfl hl.1 rfl (lv_room (Nat.le_of_ble_eq_true rfl)) dX4_readOne_74 ⟨Nat.le_of_ble_eq_true rfl, Nat.le_of_ble_eq_true rfl⟩) hS (fun q _ h => hFc q h) hFc (fun r_191 u t H1 locs ht hvm w_192 hB hz1 hk1 hS => ?_)
    obtain ⟨ws_193, ty_194, hm_195, ht_197, hP1, hK1, hD1, hx_196⟩ := hB
    rw [ht] at hP1
    have hK := va_K.moved hvm.symm hK1
    have hD := hD1.weaken (fun _ _ _ h => hFc _ h)
    generalize H1 = H at hP1 hS ⊢
    have hP := hP1
    obtain ⟨g_199, e_198, h_200⟩ := hm_195.obj er_176
    obtain ⟨z_201, z_202, z_203, z_204, z_205, z_206, rfl⟩ := smX4 h_200
    obtain ⟨g_208, e_207, h_209⟩ := hm_195.obj et_177
    obtain ⟨z_210, z_211, z_212, z_213, rfl⟩ := smX6 h_209
    obtain ⟨f_215, e_214⟩ := hm_195.arrI e_182
    have u_216 := ht_197 _ _ u_183
    obtain ⟨f_218, e_217⟩ := hm_195.arrI e_188
    have u_219 := ht_197 _ _ u_189
    have hsm := hsm.tr (hm_195.mono (by decide))
    have htx := htx.tr ht_197
    obtain ⟨ts_220, te_221, cc_222, ra_223, rb_224, rc_225, rv_226, re_227, ya_228, h1_229, h2_230, h3_231, h4_232, er_233, et_234, ⟨k_235, c9_236, t_237, f_238, e_239, u_240⟩, ⟨k_241, c9_242, t_243, f_244, e_245, u_246⟩⟩ := id hx_196
    rcases w_192 with rfl | rfl
    · refine lv_if_eq (tgt := 84) hx hb dX4_readOne_77 (by decide) (fun c_247 => ?_) (fun c_247 => absurd (by decide) c_247)
      refine lv_iconst (v := 0) hx hb dX4_readOne_84 (by decide) ?_
      exact W.zret (v := 0) hx hb hr rfl (fun t ht hW => ⟨⟨0, (), rfl, Or.inl rfl, ws_193, ty_194, hsm, htx, by rw [ht]; exact hP, va_K.moved hW.alike hK, hD, (⟨ts_220, te_221, cc_222, ra_223, rb_224, rc_225, rv_226, re_227, ya_228, by omega, by omega, by omega, by omega, er_233, et_234, ⟨k_235, c9_236, t_237, f_238, e_239, u_240⟩, ⟨k_241, c9_242, t_243, f_244, e_245, u_246⟩⟩ : RS ws_193 ty_194 rd krd tp ktp cd bb tl)⟩, hS.F ht⟩) hS.2.2 dX4_readOne_85
    refine lv_if_eq (tgt := 84) hx hb dX4_readOne_77 (by decide) (fun c_248 => absurd c_248 (by decide)) (fun c_248 => ?_)
    refine lv_iconst (v := 1) hx hb dX4_readOne_80 (by decide) ?_
    refine lv_goto (tgt := 85) hx hb dX4_readOne_81 (by decide) ?_
    exact W.zret (v := 1) hx hb hr rfl (fun t ht hW => ⟨⟨1, (), rfl, Or.inr rfl, ws_193, ty_194, hsm, htx, by rw [ht]; exact hP, va_K.moved hW.alike hK, hD, (⟨ts_220, te_221, cc_222, ra_223, rb_224, rc_225, rv_226, re_227, ya_228, by omega, by omega, by omega, by omega, er_233, et_234, ⟨k_235, c9_236, t_237, f_238, e_239, u_240⟩, ⟨k_241, c9_242, t_243, f_244, e_245, u_246⟩⟩ : RS ws_193 ty_194 rd krd tp ktp cd bb tl)⟩, hS.F ht⟩) hS.2.2 dX4_readOne_85
  refine lv_istore_n (lv' := [(2, .int 1), (0, .ref rd), (1, .int 1)]) hx hb dX4_readOne_9 rfl hl (by decide) rfl (fun ls hl => ?_)
  refine lv_iload_n hx hb dX4_readOne_10 rfl (lv_at hl 0 rfl) ?_
  refine lv_if_ne (tgt := 31) hx hb dX4_readOne_11 (by decide) (fun c_249 => ?_) (fun c_249 => absurd c_249 (by decide))
  refine lv_iload_n hx hb dX4_readOne_31 rfl (lv_at hl 2 rfl) ?_
  refine lv_bipush (v := 6) hx hb dX4_readOne_32 (by decide) ?_
  refine lv_icmp_lt (tgt := 50) hx hb dX4_readOne_34 (by decide) (fun c_250 => ?_) (fun c_250 => absurd (by decide) c_250)
  refine lv_aload_n hx hb dX4_readOne_50 rfl (lv_at hl 1 rfl) ?_
  refine va_get (D := D) (ci := 4) (v := .ref tp) (C := RX4) (T := TX4) (N := 8) hx hb hts hin4 hown hK hP krd e_35 rfl 0 (by decide) (hts (.fieldLink RX4 12 "HoneyHouse$RuleReader" "tape" "LHoneyHouse$Tape;") (List.mem_of_getElem? (i := 1) rfl)) (fun _ h9 => h9) rfl dX4_readOne_51 ?_
  have hFc := free_all hD hS hA
  refine va_callv (va_runV (As := []) (rest := []) ⟨hx, hb, hml, hown, hts⟩ (a_advance l D ws_30 ty_31 tp ktp tl te_2 ya_9 (nI ts_1) bb k_22 c9_23 t_24 f_41 H.size (by omega) (by omega) e_36 e_40 u_42) (cwV 0 hts gX4_readOne_X6_advance rfl rfl rfl (by decide +kernel) ⟨Nat.le_of_ble_eq_true rfl, Nat.le_of_ble_eq_true rfl⟩) ⟨fun a U g mk q => by obtain ⟨q0, q1, qP, qK, qD⟩ := q; exact ⟨q0, q1, qP, va_K.moved (u := U) (U := U.calling g mk a) (Vm.Alike.refl U.vm) qK, qD⟩, va_recv hK hP (ci := 6) (q0 := ktp) rfl e_36, fun U hU hW => ⟨rfl, by rw [hU], by rw [hU]; exact hP, va_K.moved hW.alike hK, hD.weaken (fun _ _ _ _ => trivial)⟩⟩ rfl rfl hl.1 rfl (lv_room (Nat.le_of_ble_eq_true rfl)) dX4_readOne_54 ⟨Nat.le_of_ble_eq_true rfl, Nat.le_of_ble_eq_true rfl⟩) hS (fun q _ h => hFc q h) hFc (fun u t H1 locs ht hvm w_252 hB hz1 hk1 hS => ?_)
  obtain ⟨ws_253, ty_254, hm_255, ht_257, hP1, hK1, hD1, hx_256⟩ := hB
  rw [ht] at hP1
  have hK := va_K.moved hvm.symm hK1
  have hD := hD1.weaken (fun _ _ _ h => hFc _ h)
  generalize H1 = H at hP1 hS ⊢
  have hP := hP1
  have e_258 := hm_255.objK e_35 (by decide)
  obtain ⟨g_260, e_259, h_261⟩ := hm_255.obj e_36
  obtain ⟨z_262, z_263, z_264, z_265, rfl⟩ := smX6 h_261
  obtain ⟨f_267, e_266⟩ := hm_255.arrI e_37
  have u_268 := ht_257 _ _ u_39
  obtain ⟨f_270, e_269⟩ := hm_255.arrI e_40
  have u_271 := ht_257 _ _ u_42
  have hsm := hsm.tr (hm_255.mono (by decide))
  have htx := htx.tr ht_257
  obtain ⟨k_272, s_273, e_274, h_275, h_276, h_277, e_278⟩ := hx_256
  refine lv_iload_n hx hb dX4_readOne_57 rfl (lv_at hl 0 rfl) ?_
  refine lv_if_ne (tgt := 86) hx hb dX4_readOne_58 (by decide) (fun c_279 => ?_) (fun c_279 => absurd c_279 (by decide))
  refine lv_aload_n hx hb dX4_readOne_86 rfl (lv_at hl 1 rfl) ?_
  refine lv_iload_n hx hb dX4_readOne_87 rfl (lv_at hl 2 rfl) ?_
  refine lv_iconst (v := 1) hx hb dX4_readOne_88 (by decide) ?_
  refine lv_iadd hx hb dX4_readOne_89 ?_
  refine tp_i (y := 2) (by decide) ?_
  have hFc := free_all hD hS hA
  refine va_calli (va_runV (As := [.int 2]) (rest := []) ⟨hx, hb, hml, hown, hts⟩ (r_readOne2 l D ws_253 ty_254 adK adV fo rd krd tp ktp cd bb tl  H.size (⟨s_273, e_274, cc_3, ra_4, rb_5, rc_6, rv_7, re_8, nI k_272, by omega, by omega, by omega, by omega, e_258, e_278, ⟨k_16, c9_17, t_18, f_267, e_266, u_268⟩, ⟨k_22, c9_23, t_24, f_270, e_269, u_271⟩⟩ : RS ws_253 ty_254 rd krd tp ktp cd bb tl)) (cwV 1 hts gX4_readOne_X4_readOne rfl rfl rfl (by decide +kernel) ⟨Nat.le_of_ble_eq_true rfl, Nat.le_of_ble_eq_true rfl⟩) ⟨fun a U g mk q => by obtain ⟨q0, q1, qP, qK, qD, qS⟩ := q; exact ⟨q0, q1, qP, va_K.moved (u := U) (U := U.calling g mk a) (Vm.Alike.refl U.vm) qK, qD, SZ.same rfl rfl qS⟩, va_recv hK hP (ci := 4) (q0 := krd) rfl e_258, fun U hU hW => ⟨rfl, by rw [hU], by rw [hU]; exact hP, va_K.moved hW.alike hK, hD.weaken (fun _ _ _ _ => trivial), hsz9.go hS hW hU hFc⟩⟩ rfl rfl hl.1 rfl (lv_room (Nat.le_of_ble_eq_true rfl)) dX4_readOne_90 ⟨Nat.le_of_ble_eq_true rfl, Nat.le_of_ble_eq_true rfl⟩) hS (fun q _ h => hFc q h) hFc (fun r_280 u t H1 locs ht hvm w_281 hB hz1 hk1 hS => ?_)
  obtain ⟨ws_282, ty_283, hm_284, ht_286, hP1, hK1, hD1, hx_285⟩ := hB
  rw [ht] at hP1
  have hK := va_K.moved hvm.symm hK1
  have hD := hD1.weaken (fun _ _ _ h => hFc _ h)
  generalize H1 = H at hP1 hS ⊢
  have hP := hP1
  obtain ⟨g_288, e_287, h_289⟩ := hm_284.obj e_258
  obtain ⟨z_290, z_291, z_292, z_293, z_294, z_295, rfl⟩ := smX4 h_289
  obtain ⟨g_297, e_296, h_298⟩ := hm_284.obj e_278
  obtain ⟨z_299, z_300, z_301, z_302, rfl⟩ := smX6 h_298
  obtain ⟨f_304, e_303⟩ := hm_284.arrI e_266
  have u_305 := ht_286 _ _ u_268
  obtain ⟨f_307, e_306⟩ := hm_284.arrI e_269
  have u_308 := ht_286 _ _ u_271
  have hsm := hsm.tr (hm_284.mono (by decide))
  have htx := htx.tr ht_286
  obtain ⟨ts_309, te_310, cc_311, ra_312, rb_313, rc_314, rv_315, re_316, ya_317, h1_318, h2_319, h3_320, h4_321, er_322, et_323, ⟨k_324, c9_325, t_326, f_327, e_328, u_329⟩, ⟨k_330, c9_331, t_332, f_333, e_334, u_335⟩⟩ := id hx_285
  refine lv_istore_n (lv' := [(3, .int r_280), (2, .int 1), (0, .ref rd), (1, .int 1)]) hx hb dX4_readOne_93 rfl hl (by decide) rfl (fun ls hl => ?_)
  refine lv_aload_n hx hb dX4_readOne_94 rfl (lv_at hl 2 rfl) ?_
  refine lv_iconst (v := (-1)) hx hb dX4_readOne_95 (by decide) ?_
  have hFc := free_all hD hS hA
  refine va_callv (va_runV (As := [.int (-1)]) (rest := []) ⟨hx, hb, hml, hown, hts⟩ (r_addCode l D ws_282 ty_283 adK adV fo rd krd tp ktp cd bb tl (-1) H.size (⟨ts_309, te_310, cc_311, ra_312, rb_313, rc_314, rv_315, re_316, ya_317, by omega, by omega, by omega, by omega, er_322, et_323, ⟨k_324, c9_325, t_326, f_327, e_328, u_329⟩, ⟨k_330, c9_331, t_332, f_333, e_334, u_335⟩⟩ : RS ws_282 ty_283 rd krd tp ktp cd bb tl)) (cwV 1 hts gX4_readOne_X4_addCode rfl rfl rfl (by decide +kernel) ⟨Nat.le_of_ble_eq_true rfl, Nat.le_of_ble_eq_true rfl⟩) ⟨fun a U g mk q => by obtain ⟨q0, q1, qP, qK, qD, qS⟩ := q; exact ⟨q0, q1, qP, va_K.moved (u := U) (U := U.calling g mk a) (Vm.Alike.refl U.vm) qK, qD, SZ.same rfl rfl qS⟩, va_recv hK hP (ci := 4) (q0 := krd) rfl er_322, fun U hU hW => ⟨rfl, by rw [hU], by rw [hU]; exact hP, va_K.moved hW.alike hK, hD.weaken (fun _ _ _ _ => trivial), hsz9.go hS hW hU hFc⟩⟩ rfl rfl hl.1 rfl (lv_room (Nat.le_of_ble_eq_true rfl)) dX4_readOne_96 ⟨Nat.le_of_ble_eq_true rfl, Nat.le_of_ble_eq_true rfl⟩) hS (fun q _ h => hFc q h) hFc (fun u t H1 locs ht hvm w_337 hB hz1 hk1 hS => ?_)
  obtain ⟨ws_338, ty_339, hm_340, ht_342, hP1, hK1, hD1, hx_341⟩ := hB
  rw [ht] at hP1
  have hK := va_K.moved hvm.symm hK1
  have hD := hD1.weaken (fun _ _ _ h => hFc _ h)
  generalize H1 = H at hP1 hS ⊢
  have hP := hP1
  obtain ⟨g_344, e_343, h_345⟩ := hm_340.obj er_322
  obtain ⟨z_346, z_347, z_348, z_349, z_350, z_351, rfl⟩ := smX4 h_345
  obtain ⟨g_353, e_352, h_354⟩ := hm_340.obj et_323
  obtain ⟨z_355, z_356, z_357, z_358, rfl⟩ := smX6 h_354
  obtain ⟨f_360, e_359⟩ := hm_340.arrI e_328
  have u_361 := ht_342 _ _ u_329
  obtain ⟨f_363, e_362⟩ := hm_340.arrI e_334
  have u_364 := ht_342 _ _ u_335
  have hsm := hsm.tr (hm_340.mono (by decide))
  have htx := htx.tr ht_342
  obtain ⟨ts_365, te_366, cc_367, ra_368, rb_369, rc_370, rv_371, re_372, ya_373, h1_374, h2_375, h3_376, h4_377, er_378, et_379, ⟨k_380, c9_381, t_382, f_383, e_384, u_385⟩, ⟨k_386, c9_387, t_388, f_389, e_390, u_391⟩⟩ := id hx_341
  refine lv_iload_n hx hb dX4_readOne_99 rfl (lv_at hl 0 rfl) ?_
  exact W.zret (v := r_280) hx hb hr (by rcases w_281 with h9 | h9 <;> rw [h9] <;> rfl) (fun t ht hW => ⟨⟨r_280, (), rfl, w_281, ws_338, ty_339, hsm, htx, by rw [ht]; exact hP, va_K.moved hW.alike hK, hD, (⟨ts_365, te_366, cc_367, ra_368, rb_369, rc_370, rv_371, re_372, ya_373, by omega, by omega, by omega, by omega, er_378, et_379, ⟨k_380, c9_381, t_382, f_383, e_384, u_385⟩, ⟨k_386, c9_387, t_388, f_389, e_390, u_391⟩⟩ : RS ws_338 ty_339 rd krd tp ktp cd bb tl)⟩, hS.F ht⟩) hS.2.2 dX4_readOne_100
set_option maxHeartbeats 4000000 in
set_option maxRecDepth 100000 in
theorem r_readEither1 (l : Launch) (D : va_G) (ws : va_W) (tys : List (ClassId × FieldType)) (adK adV : Nat → Nat) (fo : Option Nat) (rd krd tp ktp cd bb tl : Nat)  (sz : Nat) (R0 : RS ws tys rd krd tp ktp cd bb tl)  : Met l yX4_readEither wsX4_readEither ({ frames := 18, cells := 0, slots := 0, locals := 412 }) (va_Pc [.ref rd, .int 1] (fun U => U.heap.size = sz ∧ va_P D vwCl ws U.heap ∧ va_K D vwCl tys U ∧ va_D (fun _ => True) ws ∧ SZ adK adV fo (va_A ws sz) U U.heap)) (va_Qi (fun (r : Int32) (_ : Unit) => r = 0 ∨ r = 1) (fun (_ : Unit) (t : State) => ∃ (ws' : va_W) (tys' : List (ClassId × FieldType)), sm [4, 6] ws ws' ∧ tyx tys tys' ∧ va_P D vwCl ws' t.heap ∧ va_K D vwCl tys' t ∧ va_D (va_A ws sz) ws' ∧ RS ws' tys' rd krd tp ktp cd bb tl) (va_A ws sz)) 0 0 (va_A ws sz) := by
  refine Met.ofW (cc := cX4_readEither) (maxL := 6) (ret := (some .boolean)) (by decide) rfl ?_
  intro p e s m args below meth c s₁ B hml hv
  obtain ⟨rfl, hsz, hP, hK, hD0, hsz9⟩ := hv
  have hx := B.exec
  have hb := B.bytes
  have hr := B.returns
  have hts := atoms_spec (ws := wsX4_readEither) B.pre
  have hown : s.vm.findClass RX4 = some m.cls := findClass_of_methodNamed B.named
  have hlocks := B.notSynchronized
  subst hsz
  have hD := hD0.self (sz := s.heap.size)
  generalize hAe : va_A ws s.heap.size = A at hD hsz9 ⊢
  have hA : ∀ q : Nat, s.heap.size ≤ q → A q := fun q h => by rw [← hAe]; exact Or.inr h
  have hS : va_S A s.heap s.heap [] := va_S.rf
  have hsm : sm [4, 6] ws ws := sm.rf ws
  have htx : tyx tys tys := tyx.rf tys
  have hin4 : ∀ w ∈ u_ws RX4 TX4 8, w ∈ wsX4_readEither := (fun _ h9 => List.mem_cons_of_mem _ (List.mem_append_left _ ((List.mem_append_right _ h9))))
  have hl := lv_entry ([.ref rd, .int 1]) (n := 6) (Nat.le_of_ble_eq_true rfl)
  rw [lg_entry_eq]
  generalize (lg_sl ([.ref rd, .int 1]) ++ List.replicate (6 - (lg_sl ([.ref rd, .int 1])).length) Slot.unset).toArray = ls at hl ⊢
  have hl : lv_has ls 6 [(0, .ref rd), (1, .int 1)] := hl
  obtain ⟨ts_1, te_2, cc_3, ra_4, rb_5, rc_6, rv_7, re_8, ya_9, h1_10, h2_11, h3_12, h4_13, er_14, et_15, ⟨k_16, c9_17, t_18, f_19, e_20, u_21⟩, ⟨k_22, c9_23, t_24, f_25, e_26, u_27⟩⟩ := id R0
  refine lv_aload_n hx hb dX4_readEither_0 rfl (lv_at hl 0 rfl) ?_
  refine lv_iload_n hx hb dX4_readEither_1 rfl (lv_at hl 1 rfl) ?_
  have hFc := free_all hD hS hA
  refine va_calli (va_runV (As := [.int 1]) (rest := []) ⟨hx, hb, hml, hown, hts⟩ (r_readOne1 l D ws tys adK adV fo rd krd tp ktp cd bb tl  s.heap.size (⟨ts_1, te_2, cc_3, ra_4, rb_5, rc_6, rv_7, re_8, ya_9, by omega, by omega, by omega, by omega, er_14, et_15, ⟨k_16, c9_17, t_18, f_19, e_20, u_21⟩, ⟨k_22, c9_23, t_24, f_25, e_26, u_27⟩⟩ : RS ws tys rd krd tp ktp cd bb tl)) (cwV 1 hts gX4_readEither_X4_readOne rfl rfl rfl (by decide +kernel) ⟨Nat.le_of_ble_eq_true rfl, Nat.le_of_ble_eq_true rfl⟩) ⟨fun a U g mk q => by obtain ⟨q0, q1, qP, qK, qD, qS⟩ := q; exact ⟨q0, q1, qP, va_K.moved (u := U) (U := U.calling g mk a) (Vm.Alike.refl U.vm) qK, qD, SZ.same rfl rfl qS⟩, va_recv hK hP (ci := 4) (q0 := krd) rfl er_14, fun U hU hW => ⟨rfl, by rw [hU], by rw [hU]; exact hP, va_K.moved hW.alike hK, hD.weaken (fun _ _ _ _ => trivial), hsz9.go hS hW hU hFc⟩⟩ rfl rfl hl.1 rfl (lv_room (Nat.le_of_ble_eq_true rfl)) dX4_readEither_2 ⟨Nat.le_of_ble_eq_true rfl, Nat.le_of_ble_eq_true rfl⟩) hS (fun q _ h => hFc q h) hFc (fun r_28 u t H1 locs ht hvm w_29 hB hz1 hk1 hS => ?_)
  obtain ⟨ws_30, ty_31, hm_32, ht_34, hP1, hK1, hD1, hx_33⟩ := hB
  rw [ht] at hP1
  have hK := va_K.moved hvm.symm hK1
  have hD := hD1.weaken (fun _ _ _ h => hFc _ h)
  generalize H1 = H at hP1 hS ⊢
  have hP := hP1
  obtain ⟨g_36, e_35, h_37⟩ := hm_32.obj er_14
  obtain ⟨z_38, z_39, z_40, z_41, z_42, z_43, rfl⟩ := smX4 h_37
  obtain ⟨g_45, e_44, h_46⟩ := hm_32.obj et_15
  obtain ⟨z_47, z_48, z_49, z_50, rfl⟩ := smX6 h_46
  obtain ⟨f_52, e_51⟩ := hm_32.arrI e_20
  have u_53 := ht_34 _ _ u_21
  obtain ⟨f_55, e_54⟩ := hm_32.arrI e_26
  have u_56 := ht_34 _ _ u_27
  have hsm := hsm.tr (hm_32.mono (by decide))
  have htx := htx.tr ht_34
  obtain ⟨ts_57, te_58, cc_59, ra_60, rb_61, rc_62, rv_63, re_64, ya_65, h1_66, h2_67, h3_68, h4_69, er_70, et_71, ⟨k_72, c9_73, t_74, f_75, e_76, u_77⟩, ⟨k_78, c9_79, t_80, f_81, e_82, u_83⟩⟩ := id hx_33
  refine lv_istore_n (lv' := [(2, .int r_28), (0, .ref rd), (1, .int 1)]) hx hb dX4_readEither_5 rfl hl (by decide) rfl (fun ls hl => ?_)
  refine lv_iconst (v := 0) hx hb dX4_readEither_6 (by decide) ?_
  refine lv_istore_n (lv' := [(3, .int 0), (2, .int r_28), (0, .ref rd), (1, .int 1)]) hx hb dX4_readEither_7 rfl hl (by decide) rfl (fun ls hl => ?_)
  refine lv_iconst (v := 0) hx hb dX4_readEither_8 (by decide) ?_
  refine lv_istore (lv' := [(4, .int 0), (3, .int 0), (2, .int r_28), (0, .ref rd), (1, .int 1)]) hx hb dX4_readEither_9 hl (by decide) rfl (fun ls hl => ?_)
  refine lp_V (nL := 6) (σ := Nat × Int32 × Int32) (lv := fun x9 => [(4, .int (nI x9.1)), (2, .int x9.2.1), (3, .int x9.2.2), (1, .int 1), (0, .ref rd)]) (μ := fun x9 => 400 - x9.1) (J := fun x9 ws9 => sm [4, 6] ws_30 ws9 ∧ (RS ws9 ty_31 rd krd tp ktp cd bb tl) ∧ (x9.1 ≤ 400) ∧ (x9.2.1 = 0 ∨ x9.2.1 = 1) ∧ (x9.2.2 = 0 ∨ x9.2.2 = 1)) (fun x9 ws_91 H locs ls hj hP hD hS hl ih_84 => ?_) (0, r_28, 0) ws_30 _ _ ls ⟨sm.rf _, (⟨ts_57, te_58, cc_59, ra_60, rb_61, rc_62, rv_63, re_64, ya_65, by omega, by omega, by omega, by omega, er_70, et_71, ⟨k_72, c9_73, t_74, f_75, e_76, u_77⟩, ⟨k_78, c9_79, t_80, f_81, e_82, u_83⟩⟩ : RS ws_30 ty_31 rd krd tp ktp cd bb tl), (show 0 ≤ 400 from by omega), (show r_28 = 0 ∨ r_28 = 1 from w_29), (show 0 = 0 ∨ 0 = 1 from Or.inl rfl)⟩ hP hD hS (lv_sub hl [0, 2, 1, 4, 3] rfl)
  obtain ⟨i_85, x_86, y_87⟩ := x9
  have hj : sm [4, 6] ws_30 ws_91 ∧ (RS ws_91 ty_31 rd krd tp ktp cd bb tl) ∧ (i_85 ≤ 400) ∧ (x_86 = 0 ∨ x_86 = 1) ∧ (y_87 = 0 ∨ y_87 = 1) := hj
  obtain ⟨hm_92, hR_94, hi_88, hbx_89, hby_90⟩ := hj
  obtain ⟨g_96, e_95, h_97⟩ := hm_92.obj er_70
  obtain ⟨z_98, z_99, z_100, z_101, z_102, z_103, rfl⟩ := smX4 h_97
  obtain ⟨g_105, e_104, h_106⟩ := hm_92.obj et_71
  obtain ⟨z_107, z_108, z_109, z_110, rfl⟩ := smX6 h_106
  obtain ⟨f_112, e_111⟩ := hm_92.arrI e_76
  obtain ⟨f_114, e_113⟩ := hm_92.arrI e_82
  have hsm := hsm.tr (hm_92.mono (by decide))
  obtain ⟨ts_115, te_116, cc_117, ra_118, rb_119, rc_120, rv_121, re_122, ya_123, h1_124, h2_125, h3_126, h4_127, er_128, et_129, ⟨k_130, c9_131, t_132, f_133, e_134, u_135⟩, ⟨k_136, c9_137, t_138, f_139, e_140, u_141⟩⟩ := id hR_94
  have hlp_93 := hm_92
  have hl : lv_has ls 6 [(4, .int (nI i_85)), (2, .int x_86), (3, .int y_87), (1, .int 1), (0, .ref rd)] := hl
  refine lv_iload hx hb dX4_readEither_11 (lv_at hl 0 rfl) ?_
  refine lv_sipush (v := 400) hx hb dX4_readEither_13 (by decide) ?_
  refine lv_icmp_ge (tgt := 101) hx hb dX4_readEither_16 (by decide) (fun c_142 => ?_) (fun c_142 => ?_)
  · have d_143 := n_le (a := 400) (b := i_85) (by omega) (by omega) c_142
    refine lv_iload_n hx hb dX4_readEither_101 rfl (lv_at hl 2 rfl) ?_
    refine lv_if_eq (tgt := 111) hx hb dX4_readEither_102 (by decide) (fun c_144 => ?_) (fun c_144 => ?_)
    · refine lv_iload_n hx hb dX4_readEither_111 rfl (lv_at hl 1 rfl) ?_
      exact W.zret (v := x_86) hx hb hr (by rcases hbx_89 with h9 | h9 <;> rw [h9] <;> rfl) (fun t ht hW => ⟨⟨x_86, (), rfl, hbx_89, ws_91, ty_31, hsm, htx, by rw [ht]; exact hP, va_K.moved hW.alike hK, hD, (⟨ts_115, te_116, cc_117, ra_118, rb_119, rc_120, rv_121, re_122, ya_123, by omega, by omega, by omega, by omega, er_128, et_129, ⟨k_130, c9_131, t_132, f_133, e_134, u_135⟩, ⟨k_136, c9_137, t_138, f_139, e_140, u_141⟩⟩ : RS ws_91 ty_31 rd krd tp ktp cd bb tl)⟩, hS.F ht⟩) hS.2.2 dX4_readEither_112
    refine lv_aload_n hx hb dX4_readEither_105 rfl (lv_at hl 4 rfl) ?_
    refine lv_bipush (v := (-3)) hx hb dX4_readEither_106 (by decide) ?_
    have hFc := free_all hD hS hA
    refine va_callv (va_runV (As := [.int (-3)]) (rest := []) ⟨hx, hb, hml, hown, hts⟩ (r_addCode l D ws_91 ty_31 adK adV fo rd krd tp ktp cd bb tl (-3) H.size (⟨ts_115, te_116, cc_117, ra_118, rb_119, rc_120, rv_121, re_122, ya_123, by omega, by omega, by omega, by omega, er_128, et_129, ⟨k_130, c9_131, t_132, f_133, e_134, u_135⟩, ⟨k_136, c9_137, t_138, f_139, e_140, u_141⟩⟩ : RS ws_91 ty_31 rd krd tp ktp cd bb tl)) (cwV 1 hts gX4_readEither_X4_addCode rfl rfl rfl (by decide +kernel) ⟨Nat.le_of_ble_eq_true rfl, Nat.le_of_ble_eq_true rfl⟩) ⟨fun a U g mk q => by obtain ⟨q0, q1, qP, qK, qD, qS⟩ := q; exact ⟨q0, q1, qP, va_K.moved (u := U) (U := U.calling g mk a) (Vm.Alike.refl U.vm) qK, qD, SZ.same rfl rfl qS⟩, va_recv hK hP (ci := 4) (q0 := krd) rfl er_128, fun U hU hW => ⟨rfl, by rw [hU], by rw [hU]; exact hP, va_K.moved hW.alike hK, hD.weaken (fun _ _ _ _ => trivial), hsz9.go hS hW hU hFc⟩⟩ rfl rfl hl.1 rfl (lv_room (Nat.le_of_ble_eq_true rfl)) dX4_readEither_108 ⟨Nat.le_of_ble_eq_true rfl, Nat.le_of_ble_eq_true rfl⟩) hS (fun q _ h => hFc q h) hFc (fun u t H1 locs ht hvm w_146 hB hz1 hk1 hS => ?_)
    obtain ⟨ws_147, ty_148, hm_149, ht_151, hP1, hK1, hD1, hx_150⟩ := hB
    rw [ht] at hP1
    have hK := va_K.moved hvm.symm hK1
    have hD := hD1.weaken (fun _ _ _ h => hFc _ h)
    generalize H1 = H at hP1 hS ⊢
    have hP := hP1
    obtain ⟨g_153, e_152, h_154⟩ := hm_149.obj er_128
    obtain ⟨z_155, z_156, z_157, z_158, z_159, z_160, rfl⟩ := smX4 h_154
    obtain ⟨g_162, e_161, h_163⟩ := hm_149.obj et_129
    obtain ⟨z_164, z_165, z_166, z_167, rfl⟩ := smX6 h_163
    obtain ⟨f_169, e_168⟩ := hm_149.arrI e_134
    have u_170 := ht_151 _ _ u_135
    obtain ⟨f_172, e_171⟩ := hm_149.arrI e_140
    have u_173 := ht_151 _ _ u_141
    have hsm := hsm.tr (hm_149.mono (by decide))
    have hlp_93 := hlp_93.tr (hm_149.mono (by decide))
    have htx := htx.tr ht_151
    obtain ⟨ts_174, te_175, cc_176, ra_177, rb_178, rc_179, rv_180, re_181, ya_182, h1_183, h2_184, h3_185, h4_186, er_187, et_188, ⟨k_189, c9_190, t_191, f_192, e_193, u_194⟩, ⟨k_195, c9_196, t_197, f_198, e_199, u_200⟩⟩ := id hx_150
    refine lv_iload_n hx hb dX4_readEither_111 rfl (lv_at hl 1 rfl) ?_
    exact W.zret (v := x_86) hx hb hr (by rcases hbx_89 with h9 | h9 <;> rw [h9] <;> rfl) (fun t ht hW => ⟨⟨x_86, (), rfl, hbx_89, ws_147, ty_148, hsm, htx, by rw [ht]; exact hP, va_K.moved hW.alike hK, hD, (⟨ts_174, te_175, cc_176, ra_177, rb_178, rc_179, rv_180, re_181, ya_182, by omega, by omega, by omega, by omega, er_187, et_188, ⟨k_189, c9_190, t_191, f_192, e_193, u_194⟩, ⟨k_195, c9_196, t_197, f_198, e_199, u_200⟩⟩ : RS ws_147 ty_148 rd krd tp ktp cd bb tl)⟩, hS.F ht⟩) hS.2.2 dX4_readEither_112
  have d_201 := n_nle (a := 400) (b := i_85) (by omega) (by omega) c_142
  refine lv_iload_n hx hb dX4_readEither_19 rfl (lv_at hl 1 rfl) ?_
  refine lv_if_eq (tgt := 101) hx hb dX4_readEither_20 (by decide) (fun c_202 => ?_) (fun c_202 => ?_)
  · refine lv_iload_n hx hb dX4_readEither_101 rfl (lv_at hl 2 rfl) ?_
    refine lv_if_eq (tgt := 111) hx hb dX4_readEither_102 (by decide) (fun c_203 => ?_) (fun c_203 => ?_)
    · refine lv_iload_n hx hb dX4_readEither_111 rfl (lv_at hl 1 rfl) ?_
      exact W.zret (v := x_86) hx hb hr (by rcases hbx_89 with h9 | h9 <;> rw [h9] <;> rfl) (fun t ht hW => ⟨⟨x_86, (), rfl, hbx_89, ws_91, ty_31, hsm, htx, by rw [ht]; exact hP, va_K.moved hW.alike hK, hD, (⟨ts_115, te_116, cc_117, ra_118, rb_119, rc_120, rv_121, re_122, ya_123, by omega, by omega, by omega, by omega, er_128, et_129, ⟨k_130, c9_131, t_132, f_133, e_134, u_135⟩, ⟨k_136, c9_137, t_138, f_139, e_140, u_141⟩⟩ : RS ws_91 ty_31 rd krd tp ktp cd bb tl)⟩, hS.F ht⟩) hS.2.2 dX4_readEither_112
    refine lv_aload_n hx hb dX4_readEither_105 rfl (lv_at hl 4 rfl) ?_
    refine lv_bipush (v := (-3)) hx hb dX4_readEither_106 (by decide) ?_
    have hFc := free_all hD hS hA
    refine va_callv (va_runV (As := [.int (-3)]) (rest := []) ⟨hx, hb, hml, hown, hts⟩ (r_addCode l D ws_91 ty_31 adK adV fo rd krd tp ktp cd bb tl (-3) H.size (⟨ts_115, te_116, cc_117, ra_118, rb_119, rc_120, rv_121, re_122, ya_123, by omega, by omega, by omega, by omega, er_128, et_129, ⟨k_130, c9_131, t_132, f_133, e_134, u_135⟩, ⟨k_136, c9_137, t_138, f_139, e_140, u_141⟩⟩ : RS ws_91 ty_31 rd krd tp ktp cd bb tl)) (cwV 1 hts gX4_readEither_X4_addCode rfl rfl rfl (by decide +kernel) ⟨Nat.le_of_ble_eq_true rfl, Nat.le_of_ble_eq_true rfl⟩) ⟨fun a U g mk q => by obtain ⟨q0, q1, qP, qK, qD, qS⟩ := q; exact ⟨q0, q1, qP, va_K.moved (u := U) (U := U.calling g mk a) (Vm.Alike.refl U.vm) qK, qD, SZ.same rfl rfl qS⟩, va_recv hK hP (ci := 4) (q0 := krd) rfl er_128, fun U hU hW => ⟨rfl, by rw [hU], by rw [hU]; exact hP, va_K.moved hW.alike hK, hD.weaken (fun _ _ _ _ => trivial), hsz9.go hS hW hU hFc⟩⟩ rfl rfl hl.1 rfl (lv_room (Nat.le_of_ble_eq_true rfl)) dX4_readEither_108 ⟨Nat.le_of_ble_eq_true rfl, Nat.le_of_ble_eq_true rfl⟩) hS (fun q _ h => hFc q h) hFc (fun u t H1 locs ht hvm w_205 hB hz1 hk1 hS => ?_)
    obtain ⟨ws_206, ty_207, hm_208, ht_210, hP1, hK1, hD1, hx_209⟩ := hB
    rw [ht] at hP1
    have hK := va_K.moved hvm.symm hK1
    have hD := hD1.weaken (fun _ _ _ h => hFc _ h)
    generalize H1 = H at hP1 hS ⊢
    have hP := hP1
    obtain ⟨g_212, e_211, h_213⟩ := hm_208.obj er_128
    obtain ⟨z_214, z_215, z_216, z_217, z_218, z_219, rfl⟩ := smX4 h_213
    obtain ⟨g_221, e_220, h_222⟩ := hm_208.obj et_129
    obtain ⟨z_223, z_224, z_225, z_226, rfl⟩ := smX6 h_222
    obtain ⟨f_228, e_227⟩ := hm_208.arrI e_134
    have u_229 := ht_210 _ _ u_135
    obtain ⟨f_231, e_230⟩ := hm_208.arrI e_140
    have u_232 := ht_210 _ _ u_141
    have hsm := hsm.tr (hm_208.mono (by decide))
    have hlp_93 := hlp_93.tr (hm_208.mono (by decide))
    have htx := htx.tr ht_210
    obtain ⟨ts_233, te_234, cc_235, ra_236, rb_237, rc_238, rv_239, re_240, ya_241, h1_242, h2_243, h3_244, h4_245, er_246, et_247, ⟨k_248, c9_249, t_250, f_251, e_252, u_253⟩, ⟨k_254, c9_255, t_256, f_257, e_258, u_259⟩⟩ := id hx_209
    refine lv_iload_n hx hb dX4_readEither_111 rfl (lv_at hl 1 rfl) ?_
    exact W.zret (v := x_86) hx hb hr (by rcases hbx_89 with h9 | h9 <;> rw [h9] <;> rfl) (fun t ht hW => ⟨⟨x_86, (), rfl, hbx_89, ws_206, ty_207, hsm, htx, by rw [ht]; exact hP, va_K.moved hW.alike hK, hD, (⟨ts_233, te_234, cc_235, ra_236, rb_237, rc_238, rv_239, re_240, ya_241, by omega, by omega, by omega, by omega, er_246, et_247, ⟨k_248, c9_249, t_250, f_251, e_252, u_253⟩, ⟨k_254, c9_255, t_256, f_257, e_258, u_259⟩⟩ : RS ws_206 ty_207 rd krd tp ktp cd bb tl)⟩, hS.F ht⟩) hS.2.2 dX4_readEither_112
  refine lv_aload_n hx hb dX4_readEither_23 rfl (lv_at hl 4 rfl) ?_
  have hFc := free_all hD hS hA
  refine va_calli (va_runV (As := []) (rest := []) ⟨hx, hb, hml, hown, hts⟩ (r_isAndOr l D ws_91 ty_31 adK adV fo rd krd tp ktp cd bb tl  H.size (⟨ts_115, te_116, cc_117, ra_118, rb_119, rc_120, rv_121, re_122, ya_123, by omega, by omega, by omega, by omega, er_128, et_129, ⟨k_130, c9_131, t_132, f_133, e_134, u_135⟩, ⟨k_136, c9_137, t_138, f_139, e_140, u_141⟩⟩ : RS ws_91 ty_31 rd krd tp ktp cd bb tl)) (cwV 0 hts gX4_readEither_X4_isAndOr rfl rfl rfl (by decide +kernel) ⟨Nat.le_of_ble_eq_true rfl, Nat.le_of_ble_eq_true rfl⟩) ⟨fun a U g mk q => by obtain ⟨q0, q1, qP, qK, qD, qS⟩ := q; exact ⟨q0, q1, qP, va_K.moved (u := U) (U := U.calling g mk a) (Vm.Alike.refl U.vm) qK, qD, SZ.same rfl rfl qS⟩, va_recv hK hP (ci := 4) (q0 := krd) rfl er_128, fun U hU hW => ⟨rfl, by rw [hU], by rw [hU]; exact hP, va_K.moved hW.alike hK, hD.weaken (fun _ _ _ _ => trivial), hsz9.go hS hW hU hFc⟩⟩ rfl rfl hl.1 rfl (lv_room (Nat.le_of_ble_eq_true rfl)) dX4_readEither_24 ⟨Nat.le_of_ble_eq_true rfl, Nat.le_of_ble_eq_true rfl⟩) hS (fun q _ h => hFc q h) hFc (fun r_260 u t H1 locs ht hvm w_261 hB hz1 hk1 hS => ?_)
  obtain ⟨ws_262, ty_263, hm_264, ht_266, hP1, hK1, hD1, hx_265⟩ := hB
  rw [ht] at hP1
  have hK := va_K.moved hvm.symm hK1
  have hD := hD1.weaken (fun _ _ _ h => hFc _ h)
  generalize H1 = H at hP1 hS ⊢
  have hP := hP1
  have e_267 := hm_264.objK er_128 (by decide)
  have e_268 := hm_264.objK et_129 (by decide)
  obtain ⟨f_270, e_269⟩ := hm_264.arrI e_134
  have u_271 := ht_266 _ _ u_135
  obtain ⟨f_273, e_272⟩ := hm_264.arrI e_140
  have u_274 := ht_266 _ _ u_141
  have hsm := hsm.tr (hm_264.mono (by decide))
  have hlp_93 := hlp_93.tr (hm_264.mono (by decide))
  have htx := htx.tr ht_266
  rcases w_261 with rfl | rfl
  · refine lv_if_eq (tgt := 101) hx hb dX4_readEither_27 (by decide) (fun c_275 => ?_) (fun c_275 => absurd (by decide) c_275)
    refine lv_iload_n hx hb dX4_readEither_101 rfl (lv_at hl 2 rfl) ?_
    refine lv_if_eq (tgt := 111) hx hb dX4_readEither_102 (by decide) (fun c_276 => ?_) (fun c_276 => ?_)
    · refine lv_iload_n hx hb dX4_readEither_111 rfl (lv_at hl 1 rfl) ?_
      exact W.zret (v := x_86) hx hb hr (by rcases hbx_89 with h9 | h9 <;> rw [h9] <;> rfl) (fun t ht hW => ⟨⟨x_86, (), rfl, hbx_89, ws_262, ty_263, hsm, htx, by rw [ht]; exact hP, va_K.moved hW.alike hK, hD, (⟨ts_115, te_116, cc_117, ra_118, rb_119, rc_120, rv_121, re_122, ya_123, by omega, by omega, by omega, by omega, e_267, e_268, ⟨k_130, c9_131, t_132, f_270, e_269, u_271⟩, ⟨k_136, c9_137, t_138, f_273, e_272, u_274⟩⟩ : RS ws_262 ty_263 rd krd tp ktp cd bb tl)⟩, hS.F ht⟩) hS.2.2 dX4_readEither_112
    refine lv_aload_n hx hb dX4_readEither_105 rfl (lv_at hl 4 rfl) ?_
    refine lv_bipush (v := (-3)) hx hb dX4_readEither_106 (by decide) ?_
    have hFc := free_all hD hS hA
    refine va_callv (va_runV (As := [.int (-3)]) (rest := []) ⟨hx, hb, hml, hown, hts⟩ (r_addCode l D ws_262 ty_263 adK adV fo rd krd tp ktp cd bb tl (-3) H.size (⟨ts_115, te_116, cc_117, ra_118, rb_119, rc_120, rv_121, re_122, ya_123, by omega, by omega, by omega, by omega, e_267, e_268, ⟨k_130, c9_131, t_132, f_270, e_269, u_271⟩, ⟨k_136, c9_137, t_138, f_273, e_272, u_274⟩⟩ : RS ws_262 ty_263 rd krd tp ktp cd bb tl)) (cwV 1 hts gX4_readEither_X4_addCode rfl rfl rfl (by decide +kernel) ⟨Nat.le_of_ble_eq_true rfl, Nat.le_of_ble_eq_true rfl⟩) ⟨fun a U g mk q => by obtain ⟨q0, q1, qP, qK, qD, qS⟩ := q; exact ⟨q0, q1, qP, va_K.moved (u := U) (U := U.calling g mk a) (Vm.Alike.refl U.vm) qK, qD, SZ.same rfl rfl qS⟩, va_recv hK hP (ci := 4) (q0 := krd) rfl e_267, fun U hU hW => ⟨rfl, by rw [hU], by rw [hU]; exact hP, va_K.moved hW.alike hK, hD.weaken (fun _ _ _ _ => trivial), hsz9.go hS hW hU hFc⟩⟩ rfl rfl hl.1 rfl (lv_room (Nat.le_of_ble_eq_true rfl)) dX4_readEither_108 ⟨Nat.le_of_ble_eq_true rfl, Nat.le_of_ble_eq_true rfl⟩) hS (fun q _ h => hFc q h) hFc (fun u t H1 locs ht hvm w_278 hB hz1 hk1 hS => ?_)
    obtain ⟨ws_279, ty_280, hm_281, ht_283, hP1, hK1, hD1, hx_282⟩ := hB
    rw [ht] at hP1
    have hK := va_K.moved hvm.symm hK1
    have hD := hD1.weaken (fun _ _ _ h => hFc _ h)
    generalize H1 = H at hP1 hS ⊢
    have hP := hP1
    obtain ⟨g_285, e_284, h_286⟩ := hm_281.obj e_267
    obtain ⟨z_287, z_288, z_289, z_290, z_291, z_292, rfl⟩ := smX4 h_286
    obtain ⟨g_294, e_293, h_295⟩ := hm_281.obj e_268
    obtain ⟨z_296, z_297, z_298, z_299, rfl⟩ := smX6 h_295
    obtain ⟨f_301, e_300⟩ := hm_281.arrI e_269
    have u_302 := ht_283 _ _ u_271
    obtain ⟨f_304, e_303⟩ := hm_281.arrI e_272
    have u_305 := ht_283 _ _ u_274
    have hsm := hsm.tr (hm_281.mono (by decide))
    have hlp_93 := hlp_93.tr (hm_281.mono (by decide))
    have htx := htx.tr ht_283
    obtain ⟨ts_306, te_307, cc_308, ra_309, rb_310, rc_311, rv_312, re_313, ya_314, h1_315, h2_316, h3_317, h4_318, er_319, et_320, ⟨k_321, c9_322, t_323, f_324, e_325, u_326⟩, ⟨k_327, c9_328, t_329, f_330, e_331, u_332⟩⟩ := id hx_282
    refine lv_iload_n hx hb dX4_readEither_111 rfl (lv_at hl 1 rfl) ?_
    exact W.zret (v := x_86) hx hb hr (by rcases hbx_89 with h9 | h9 <;> rw [h9] <;> rfl) (fun t ht hW => ⟨⟨x_86, (), rfl, hbx_89, ws_279, ty_280, hsm, htx, by rw [ht]; exact hP, va_K.moved hW.alike hK, hD, (⟨ts_306, te_307, cc_308, ra_309, rb_310, rc_311, rv_312, re_313, ya_314, by omega, by omega, by omega, by omega, er_319, et_320, ⟨k_321, c9_322, t_323, f_324, e_325, u_326⟩, ⟨k_327, c9_328, t_329, f_330, e_331, u_332⟩⟩ : RS ws_279 ty_280 rd krd tp ktp cd bb tl)⟩, hS.F ht⟩) hS.2.2 dX4_readEither_112
  refine lv_if_eq (tgt := 101) hx hb dX4_readEither_27 (by decide) (fun c_333 => absurd c_333 (by decide)) (fun c_333 => ?_)
  refine lv_aload_n hx hb dX4_readEither_30 rfl (lv_at hl 4 rfl) ?_
  refine va_get (D := D) (ci := 4) (v := .ref tp) (C := RX4) (T := TX4) (N := 8) hx hb hts hin4 hown hK hP krd e_267 rfl 0 (by decide) (hts (.fieldLink RX4 12 "HoneyHouse$RuleReader" "tape" "LHoneyHouse$Tape;") (List.mem_of_getElem? (i := 1) rfl)) (fun _ h9 => h9) rfl dX4_readEither_31 ?_
  refine va_ldcS hx hb hown hsz9.2.2.2.2.2.1 dX4_readEither_34 ?_
  have hFc := free_all hD hS hA
  refine va_calli (va_runV (As := [.ref (adK 2)]) (rest := []) ⟨hx, hb, hml, hown, hts⟩ (a_isWord l D ws_262 ty_263 adK adV fo 2 tp ktp tl ya_123 (nI ts_115) (nI te_116) bb k_136 c9_137 t_138 f_273 H.size (by decide) e_268 e_272 u_274) (cwV 1 hts gX4_readEither_X6_isWord rfl rfl rfl (by decide +kernel) ⟨Nat.le_of_ble_eq_true rfl, Nat.le_of_ble_eq_true rfl⟩) ⟨fun a U g mk q => by obtain ⟨q0, q1, qP, qK, qD, qS⟩ := q; exact ⟨q0, q1, qP, va_K.moved (u := U) (U := U.calling g mk a) (Vm.Alike.refl U.vm) qK, qD, SZ.same rfl rfl qS⟩, va_recv hK hP (ci := 6) (q0 := ktp) rfl e_268, fun U hU hW => ⟨rfl, by rw [hU], by rw [hU]; exact hP, va_K.moved hW.alike hK, hD.weaken (fun _ _ _ _ => trivial), hsz9.go hS hW hU hFc⟩⟩ rfl rfl hl.1 rfl (lv_room (Nat.le_of_ble_eq_true rfl)) dX4_readEither_36 ⟨Nat.le_of_ble_eq_true rfl, Nat.le_of_ble_eq_true rfl⟩) hS (fun q _ h => hFc q h) hFc (fun r_334 u t H1 locs ht hvm w_335 hB hz1 hk1 hS => ?_)
  obtain ⟨ws_336, ty_337, hm_338, ht_340, hP1, hK1, hD1, hx_339⟩ := hB
  rw [ht] at hP1
  have hK := va_K.moved hvm.symm hK1
  have hD := hD1.weaken (fun _ _ _ h => hFc _ h)
  generalize H1 = H at hP1 hS ⊢
  have hP := hP1
  have e_341 := hm_338.objK e_267 (by decide)
  have e_342 := hm_338.objK e_268 (by decide)
  obtain ⟨f_344, e_343⟩ := hm_338.arrI e_269
  have u_345 := ht_340 _ _ u_271
  obtain ⟨f_347, e_346⟩ := hm_338.arrI e_272
  have u_348 := ht_340 _ _ u_274
  have hsm := hsm.tr (hm_338.mono (by decide))
  have hlp_93 := hlp_93.tr (hm_338.mono (by decide))
  have htx := htx.tr ht_340
  rcases w_335 with rfl | rfl
  · refine lv_istore (lv' := [(5, .int 0), (4, .int (nI i_85)), (2, .int x_86), (3, .int y_87), (1, .int 1), (0, .ref rd)]) hx hb dX4_readEither_39 hl (by decide) rfl (fun ls hl => ?_)
    refine lv_iload hx hb dX4_readEither_41 (lv_at hl 0 rfl) ?_
    refine lv_if_ne (tgt := 56) hx hb dX4_readEither_43 (by decide) (fun c_349 => absurd (by decide) c_349) (fun c_349 => ?_)
    refine lv_iload_n hx hb dX4_readEither_46 rfl (lv_at hl 3 rfl) ?_
    refine lv_if_eq (tgt := 56) hx hb dX4_readEither_47 (by decide) (fun c_350 => ?_) (fun c_350 => ?_)
    · refine lv_iload_n hx hb dX4_readEither_56 rfl (lv_at hl 3 rfl) ?_
      refine lv_if_ne (tgt := 65) hx hb dX4_readEither_57 (by decide) (fun c_351 => ?_) (fun c_351 => ?_)
      · refine lv_iconst (v := 1) hx hb dX4_readEither_65 (by decide) ?_
        refine lv_goto (tgt := 70) hx hb dX4_readEither_66 (by decide) ?_
        refine lv_istore_n (lv' := [(3, .int 1), (5, .int 0), (4, .int (nI i_85)), (2, .int x_86), (1, .int 1), (0, .ref rd)]) hx hb dX4_readEither_70 rfl hl (by decide) rfl (fun ls hl => ?_)
        refine lv_aload_n hx hb dX4_readEither_71 rfl (lv_at hl 5 rfl) ?_
        refine va_get (D := D) (ci := 4) (v := .ref tp) (C := RX4) (T := TX4) (N := 8) hx hb hts hin4 hown hK hP krd e_341 rfl 0 (by decide) (hts (.fieldLink RX4 12 "HoneyHouse$RuleReader" "tape" "LHoneyHouse$Tape;") (List.mem_of_getElem? (i := 1) rfl)) (fun _ h9 => h9) rfl dX4_readEither_72 ?_
        have hFc := free_all hD hS hA
        refine va_callv (va_runV (As := []) (rest := []) ⟨hx, hb, hml, hown, hts⟩ (a_advance l D ws_336 ty_337 tp ktp tl te_116 ya_123 (nI ts_115) bb k_136 c9_137 t_138 f_347 H.size (by omega) (by omega) e_342 e_346 u_348) (cwV 0 hts gX4_readEither_X6_advance rfl rfl rfl (by decide +kernel) ⟨Nat.le_of_ble_eq_true rfl, Nat.le_of_ble_eq_true rfl⟩) ⟨fun a U g mk q => by obtain ⟨q0, q1, qP, qK, qD⟩ := q; exact ⟨q0, q1, qP, va_K.moved (u := U) (U := U.calling g mk a) (Vm.Alike.refl U.vm) qK, qD⟩, va_recv hK hP (ci := 6) (q0 := ktp) rfl e_342, fun U hU hW => ⟨rfl, by rw [hU], by rw [hU]; exact hP, va_K.moved hW.alike hK, hD.weaken (fun _ _ _ _ => trivial)⟩⟩ rfl rfl hl.1 rfl (lv_room (Nat.le_of_ble_eq_true rfl)) dX4_readEither_75 ⟨Nat.le_of_ble_eq_true rfl, Nat.le_of_ble_eq_true rfl⟩) hS (fun q _ h => hFc q h) hFc (fun u t H1 locs ht hvm w_353 hB hz1 hk1 hS => ?_)
        obtain ⟨ws_354, ty_355, hm_356, ht_358, hP1, hK1, hD1, hx_357⟩ := hB
        rw [ht] at hP1
        have hK := va_K.moved hvm.symm hK1
        have hD := hD1.weaken (fun _ _ _ h => hFc _ h)
        generalize H1 = H at hP1 hS ⊢
        have hP := hP1
        have e_359 := hm_356.objK e_341 (by decide)
        obtain ⟨g_361, e_360, h_362⟩ := hm_356.obj e_342
        obtain ⟨z_363, z_364, z_365, z_366, rfl⟩ := smX6 h_362
        obtain ⟨f_368, e_367⟩ := hm_356.arrI e_343
        have u_369 := ht_358 _ _ u_345
        obtain ⟨f_371, e_370⟩ := hm_356.arrI e_346
        have u_372 := ht_358 _ _ u_348
        have hsm := hsm.tr (hm_356.mono (by decide))
        have hlp_93 := hlp_93.tr (hm_356.mono (by decide))
        have htx := htx.tr ht_358
        obtain ⟨k_373, s_374, e_375, h_376, h_377, h_378, e_379⟩ := hx_357
        refine lv_aload_n hx hb dX4_readEither_78 rfl (lv_at hl 5 rfl) ?_
        refine lv_iload_n hx hb dX4_readEither_79 rfl (lv_at hl 4 rfl) ?_
        have hFc := free_all hD hS hA
        refine va_calli (va_runV (As := [.int 1]) (rest := []) ⟨hx, hb, hml, hown, hts⟩ (r_readOne1 l D ws_354 ty_355 adK adV fo rd krd tp ktp cd bb tl  H.size (⟨s_374, e_375, cc_117, ra_118, rb_119, rc_120, rv_121, re_122, nI k_373, by omega, by omega, by omega, by omega, e_359, e_379, ⟨k_130, c9_131, t_132, f_368, e_367, u_369⟩, ⟨k_136, c9_137, t_138, f_371, e_370, u_372⟩⟩ : RS ws_354 ty_355 rd krd tp ktp cd bb tl)) (cwV 1 hts gX4_readEither_X4_readOne rfl rfl rfl (by decide +kernel) ⟨Nat.le_of_ble_eq_true rfl, Nat.le_of_ble_eq_true rfl⟩) ⟨fun a U g mk q => by obtain ⟨q0, q1, qP, qK, qD, qS⟩ := q; exact ⟨q0, q1, qP, va_K.moved (u := U) (U := U.calling g mk a) (Vm.Alike.refl U.vm) qK, qD, SZ.same rfl rfl qS⟩, va_recv hK hP (ci := 4) (q0 := krd) rfl e_359, fun U hU hW => ⟨rfl, by rw [hU], by rw [hU]; exact hP, va_K.moved hW.alike hK, hD.weaken (fun _ _ _ _ => trivial), hsz9.go hS hW hU hFc⟩⟩ rfl rfl hl.1 rfl (lv_room (Nat.le_of_ble_eq_true rfl)) dX4_readEither_80 ⟨Nat.le_of_ble_eq_true rfl, Nat.le_of_ble_eq_true rfl⟩) hS (fun q _ h => hFc q h) hFc (fun r_380 u t H1 locs ht hvm w_381 hB hz1 hk1 hS => ?_)
        obtain ⟨ws_382, ty_383, hm_384, ht_386, hP1, hK1, hD1, hx_385⟩ := hB
        rw [ht] at hP1
        have hK := va_K.moved hvm.symm hK1
        have hD := hD1.weaken (fun _ _ _ h => hFc _ h)
        generalize H1 = H at hP1 hS ⊢
        have hP := hP1
        obtain ⟨g_388, e_387, h_389⟩ := hm_384.obj e_359
        obtain ⟨z_390, z_391, z_392, z_393, z_394, z_395, rfl⟩ := smX4 h_389
        obtain ⟨g_397, e_396, h_398⟩ := hm_384.obj e_379
        obtain ⟨z_399, z_400, z_401, z_402, rfl⟩ := smX6 h_398
        obtain ⟨f_404, e_403⟩ := hm_384.arrI e_367
        have u_405 := ht_386 _ _ u_369
        obtain ⟨f_407, e_406⟩ := hm_384.arrI e_370
        have u_408 := ht_386 _ _ u_372
        have hsm := hsm.tr (hm_384.mono (by decide))
        have hlp_93 := hlp_93.tr (hm_384.mono (by decide))
        have htx := htx.tr ht_386
        obtain ⟨ts_409, te_410, cc_411, ra_412, rb_413, rc_414, rv_415, re_416, ya_417, h1_418, h2_419, h3_420, h4_421, er_422, et_423, ⟨k_424, c9_425, t_426, f_427, e_428, u_429⟩, ⟨k_430, c9_431, t_432, f_433, e_434, u_435⟩⟩ := id hx_385
        refine lv_istore_n (lv' := [(2, .int r_380), (3, .int 1), (5, .int 0), (4, .int (nI i_85)), (1, .int 1), (0, .ref rd)]) hx hb dX4_readEither_83 rfl hl (by decide) rfl (fun ls hl => ?_)
        refine lv_iload hx hb dX4_readEither_84 (lv_at hl 2 rfl) ?_
        refine lv_if_eq (tgt := 95) hx hb dX4_readEither_86 (by decide) (fun c_436 => ?_) (fun c_436 => absurd (by decide) c_436)
        refine lv_iinc (v := nI (i_85 + 1)) (lv' := [(4, .int (nI (i_85 + 1))), (2, .int r_380), (3, .int 1), (5, .int 0), (1, .int 1), (0, .ref rd)]) hx hb dX4_readEither_95 hl (k := 3) rfl (nI_add i_85 1) (by decide) rfl (fun ls hl => ?_)
        refine lv_goto (tgt := 11) hx hb dX4_readEither_98 (by decide) ?_
        exact ih_84 (i_85 + 1, r_380, 1) ws_382 _ _ ls (by show 400 - (i_85 + 1) < 400 - i_85; omega) ⟨hlp_93, (⟨ts_409, te_410, cc_411, ra_412, rb_413, rc_414, rv_415, re_416, ya_417, by omega, by omega, by omega, by omega, er_422, et_423, ⟨k_424, c9_425, t_426, f_427, e_428, u_429⟩, ⟨k_430, c9_431, t_432, f_433, e_434, u_435⟩⟩ : RS ws_382 ty_383 rd krd tp ktp cd bb tl), (show (i_85 + 1) ≤ 400 from by omega), (show r_380 = 0 ∨ r_380 = 1 from w_381), (show 1 = 0 ∨ 1 = 1 from Or.inr rfl)⟩ hP hD hS (lv_sub hl [0, 1, 2, 4, 5] rfl)
      refine lv_iload hx hb dX4_readEither_60 (lv_at hl 0 rfl) ?_
      refine lv_if_ne (tgt := 69) hx hb dX4_readEither_62 (by decide) (fun c_437 => absurd (by decide) c_437) (fun c_437 => ?_)
      refine lv_iconst (v := 1) hx hb dX4_readEither_65 (by decide) ?_
      refine lv_goto (tgt := 70) hx hb dX4_readEither_66 (by decide) ?_
      refine lv_istore_n (lv' := [(3, .int 1), (5, .int 0), (4, .int (nI i_85)), (2, .int x_86), (1, .int 1), (0, .ref rd)]) hx hb dX4_readEither_70 rfl hl (by decide) rfl (fun ls hl => ?_)
      refine lv_aload_n hx hb dX4_readEither_71 rfl (lv_at hl 5 rfl) ?_
      refine va_get (D := D) (ci := 4) (v := .ref tp) (C := RX4) (T := TX4) (N := 8) hx hb hts hin4 hown hK hP krd e_341 rfl 0 (by decide) (hts (.fieldLink RX4 12 "HoneyHouse$RuleReader" "tape" "LHoneyHouse$Tape;") (List.mem_of_getElem? (i := 1) rfl)) (fun _ h9 => h9) rfl dX4_readEither_72 ?_
      have hFc := free_all hD hS hA
      refine va_callv (va_runV (As := []) (rest := []) ⟨hx, hb, hml, hown, hts⟩ (a_advance l D ws_336 ty_337 tp ktp tl te_116 ya_123 (nI ts_115) bb k_136 c9_137 t_138 f_347 H.size (by omega) (by omega) e_342 e_346 u_348) (cwV 0 hts gX4_readEither_X6_advance rfl rfl rfl (by decide +kernel) ⟨Nat.le_of_ble_eq_true rfl, Nat.le_of_ble_eq_true rfl⟩) ⟨fun a U g mk q => by obtain ⟨q0, q1, qP, qK, qD⟩ := q; exact ⟨q0, q1, qP, va_K.moved (u := U) (U := U.calling g mk a) (Vm.Alike.refl U.vm) qK, qD⟩, va_recv hK hP (ci := 6) (q0 := ktp) rfl e_342, fun U hU hW => ⟨rfl, by rw [hU], by rw [hU]; exact hP, va_K.moved hW.alike hK, hD.weaken (fun _ _ _ _ => trivial)⟩⟩ rfl rfl hl.1 rfl (lv_room (Nat.le_of_ble_eq_true rfl)) dX4_readEither_75 ⟨Nat.le_of_ble_eq_true rfl, Nat.le_of_ble_eq_true rfl⟩) hS (fun q _ h => hFc q h) hFc (fun u t H1 locs ht hvm w_439 hB hz1 hk1 hS => ?_)
      obtain ⟨ws_440, ty_441, hm_442, ht_444, hP1, hK1, hD1, hx_443⟩ := hB
      rw [ht] at hP1
      have hK := va_K.moved hvm.symm hK1
      have hD := hD1.weaken (fun _ _ _ h => hFc _ h)
      generalize H1 = H at hP1 hS ⊢
      have hP := hP1
      have e_445 := hm_442.objK e_341 (by decide)
      obtain ⟨g_447, e_446, h_448⟩ := hm_442.obj e_342
      obtain ⟨z_449, z_450, z_451, z_452, rfl⟩ := smX6 h_448
      obtain ⟨f_454, e_453⟩ := hm_442.arrI e_343
      have u_455 := ht_444 _ _ u_345
      obtain ⟨f_457, e_456⟩ := hm_442.arrI e_346
      have u_458 := ht_444 _ _ u_348
      have hsm := hsm.tr (hm_442.mono (by decide))
      have hlp_93 := hlp_93.tr (hm_442.mono (by decide))
      have htx := htx.tr ht_444
      obtain ⟨k_459, s_460, e_461, h_462, h_463, h_464, e_465⟩ := hx_443
      refine lv_aload_n hx hb dX4_readEither_78 rfl (lv_at hl 5 rfl) ?_
      refine lv_iload_n hx hb dX4_readEither_79 rfl (lv_at hl 4 rfl) ?_
      have hFc := free_all hD hS hA
      refine va_calli (va_runV (As := [.int 1]) (rest := []) ⟨hx, hb, hml, hown, hts⟩ (r_readOne1 l D ws_440 ty_441 adK adV fo rd krd tp ktp cd bb tl  H.size (⟨s_460, e_461, cc_117, ra_118, rb_119, rc_120, rv_121, re_122, nI k_459, by omega, by omega, by omega, by omega, e_445, e_465, ⟨k_130, c9_131, t_132, f_454, e_453, u_455⟩, ⟨k_136, c9_137, t_138, f_457, e_456, u_458⟩⟩ : RS ws_440 ty_441 rd krd tp ktp cd bb tl)) (cwV 1 hts gX4_readEither_X4_readOne rfl rfl rfl (by decide +kernel) ⟨Nat.le_of_ble_eq_true rfl, Nat.le_of_ble_eq_true rfl⟩) ⟨fun a U g mk q => by obtain ⟨q0, q1, qP, qK, qD, qS⟩ := q; exact ⟨q0, q1, qP, va_K.moved (u := U) (U := U.calling g mk a) (Vm.Alike.refl U.vm) qK, qD, SZ.same rfl rfl qS⟩, va_recv hK hP (ci := 4) (q0 := krd) rfl e_445, fun U hU hW => ⟨rfl, by rw [hU], by rw [hU]; exact hP, va_K.moved hW.alike hK, hD.weaken (fun _ _ _ _ => trivial), hsz9.go hS hW hU hFc⟩⟩ rfl rfl hl.1 rfl (lv_room (Nat.le_of_ble_eq_true rfl)) dX4_readEither_80 ⟨Nat.le_of_ble_eq_true rfl, Nat.le_of_ble_eq_true rfl⟩) hS (fun q _ h => hFc q h) hFc (fun r_466 u t H1 locs ht hvm w_467 hB hz1 hk1 hS => ?_)
      obtain ⟨ws_468, ty_469, hm_470, ht_472, hP1, hK1, hD1, hx_471⟩ := hB
      rw [ht] at hP1
      have hK := va_K.moved hvm.symm hK1
      have hD := hD1.weaken (fun _ _ _ h => hFc _ h)
      generalize H1 = H at hP1 hS ⊢
      have hP := hP1
      obtain ⟨g_474, e_473, h_475⟩ := hm_470.obj e_445
      obtain ⟨z_476, z_477, z_478, z_479, z_480, z_481, rfl⟩ := smX4 h_475
      obtain ⟨g_483, e_482, h_484⟩ := hm_470.obj e_465
      obtain ⟨z_485, z_486, z_487, z_488, rfl⟩ := smX6 h_484
      obtain ⟨f_490, e_489⟩ := hm_470.arrI e_453
      have u_491 := ht_472 _ _ u_455
      obtain ⟨f_493, e_492⟩ := hm_470.arrI e_456
      have u_494 := ht_472 _ _ u_458
      have hsm := hsm.tr (hm_470.mono (by decide))
      have hlp_93 := hlp_93.tr (hm_470.mono (by decide))
      have htx := htx.tr ht_472
      obtain ⟨ts_495, te_496, cc_497, ra_498, rb_499, rc_500, rv_501, re_502, ya_503, h1_504, h2_505, h3_506, h4_507, er_508, et_509, ⟨k_510, c9_511, t_512, f_513, e_514, u_515⟩, ⟨k_516, c9_517, t_518, f_519, e_520, u_521⟩⟩ := id hx_471
      refine lv_istore_n (lv' := [(2, .int r_466), (3, .int 1), (5, .int 0), (4, .int (nI i_85)), (1, .int 1), (0, .ref rd)]) hx hb dX4_readEither_83 rfl hl (by decide) rfl (fun ls hl => ?_)
      refine lv_iload hx hb dX4_readEither_84 (lv_at hl 2 rfl) ?_
      refine lv_if_eq (tgt := 95) hx hb dX4_readEither_86 (by decide) (fun c_522 => ?_) (fun c_522 => absurd (by decide) c_522)
      refine lv_iinc (v := nI (i_85 + 1)) (lv' := [(4, .int (nI (i_85 + 1))), (2, .int r_466), (3, .int 1), (5, .int 0), (1, .int 1), (0, .ref rd)]) hx hb dX4_readEither_95 hl (k := 3) rfl (nI_add i_85 1) (by decide) rfl (fun ls hl => ?_)
      refine lv_goto (tgt := 11) hx hb dX4_readEither_98 (by decide) ?_
      exact ih_84 (i_85 + 1, r_466, 1) ws_468 _ _ ls (by show 400 - (i_85 + 1) < 400 - i_85; omega) ⟨hlp_93, (⟨ts_495, te_496, cc_497, ra_498, rb_499, rc_500, rv_501, re_502, ya_503, by omega, by omega, by omega, by omega, er_508, et_509, ⟨k_510, c9_511, t_512, f_513, e_514, u_515⟩, ⟨k_516, c9_517, t_518, f_519, e_520, u_521⟩⟩ : RS ws_468 ty_469 rd krd tp ktp cd bb tl), (show (i_85 + 1) ≤ 400 from by omega), (show r_466 = 0 ∨ r_466 = 1 from w_467), (show 1 = 0 ∨ 1 = 1 from Or.inr rfl)⟩ hP hD hS (lv_sub hl [0, 1, 2, 4, 5] rfl)
    refine lv_aload_n hx hb dX4_readEither_50 rfl (lv_at hl 5 rfl) ?_
    refine lv_bipush (v := (-3)) hx hb dX4_readEither_51 (by decide) ?_
    have hFc := free_all hD hS hA
    refine va_callv (va_runV (As := [.int (-3)]) (rest := []) ⟨hx, hb, hml, hown, hts⟩ (r_addCode l D ws_336 ty_337 adK adV fo rd krd tp ktp cd bb tl (-3) H.size (⟨ts_115, te_116, cc_117, ra_118, rb_119, rc_120, rv_121, re_122, ya_123, by omega, by omega, by omega, by omega, e_341, e_342, ⟨k_130, c9_131, t_132, f_344, e_343, u_345⟩, ⟨k_136, c9_137, t_138, f_347, e_346, u_348⟩⟩ : RS ws_336 ty_337 rd krd tp ktp cd bb tl)) (cwV 1 hts gX4_readEither_X4_addCode rfl rfl rfl (by decide +kernel) ⟨Nat.le_of_ble_eq_true rfl, Nat.le_of_ble_eq_true rfl⟩) ⟨fun a U g mk q => by obtain ⟨q0, q1, qP, qK, qD, qS⟩ := q; exact ⟨q0, q1, qP, va_K.moved (u := U) (U := U.calling g mk a) (Vm.Alike.refl U.vm) qK, qD, SZ.same rfl rfl qS⟩, va_recv hK hP (ci := 4) (q0 := krd) rfl e_341, fun U hU hW => ⟨rfl, by rw [hU], by rw [hU]; exact hP, va_K.moved hW.alike hK, hD.weaken (fun _ _ _ _ => trivial), hsz9.go hS hW hU hFc⟩⟩ rfl rfl hl.1 rfl (lv_room (Nat.le_of_ble_eq_true rfl)) dX4_readEither_53 ⟨Nat.le_of_ble_eq_true rfl, Nat.le_of_ble_eq_true rfl⟩) hS (fun q _ h => hFc q h) hFc (fun u t H1 locs ht hvm w_524 hB hz1 hk1 hS => ?_)
    obtain ⟨ws_525, ty_526, hm_527, ht_529, hP1, hK1, hD1, hx_528⟩ := hB
    rw [ht] at hP1
    have hK := va_K.moved hvm.symm hK1
    have hD := hD1.weaken (fun _ _ _ h => hFc _ h)
    generalize H1 = H at hP1 hS ⊢
    have hP := hP1
    obtain ⟨g_531, e_530, h_532⟩ := hm_527.obj e_341
    obtain ⟨z_533, z_534, z_535, z_536, z_537, z_538, rfl⟩ := smX4 h_532
    obtain ⟨g_540, e_539, h_541⟩ := hm_527.obj e_342
    obtain ⟨z_542, z_543, z_544, z_545, rfl⟩ := smX6 h_541
    obtain ⟨f_547, e_546⟩ := hm_527.arrI e_343
    have u_548 := ht_529 _ _ u_345
    obtain ⟨f_550, e_549⟩ := hm_527.arrI e_346
    have u_551 := ht_529 _ _ u_348
    have hsm := hsm.tr (hm_527.mono (by decide))
    have hlp_93 := hlp_93.tr (hm_527.mono (by decide))
    have htx := htx.tr ht_529
    obtain ⟨ts_552, te_553, cc_554, ra_555, rb_556, rc_557, rv_558, re_559, ya_560, h1_561, h2_562, h3_563, h4_564, er_565, et_566, ⟨k_567, c9_568, t_569, f_570, e_571, u_572⟩, ⟨k_573, c9_574, t_575, f_576, e_577, u_578⟩⟩ := id hx_528
    refine lv_iload_n hx hb dX4_readEither_56 rfl (lv_at hl 3 rfl) ?_
    refine lv_if_ne (tgt := 65) hx hb dX4_readEither_57 (by decide) (fun c_579 => ?_) (fun c_579 => ?_)
    · refine lv_iconst (v := 1) hx hb dX4_readEither_65 (by decide) ?_
      refine lv_goto (tgt := 70) hx hb dX4_readEither_66 (by decide) ?_
      refine lv_istore_n (lv' := [(3, .int 1), (5, .int 0), (4, .int (nI i_85)), (2, .int x_86), (1, .int 1), (0, .ref rd)]) hx hb dX4_readEither_70 rfl hl (by decide) rfl (fun ls hl => ?_)
      refine lv_aload_n hx hb dX4_readEither_71 rfl (lv_at hl 5 rfl) ?_
      refine va_get (D := D) (ci := 4) (v := .ref tp) (C := RX4) (T := TX4) (N := 8) hx hb hts hin4 hown hK hP krd er_565 rfl 0 (by decide) (hts (.fieldLink RX4 12 "HoneyHouse$RuleReader" "tape" "LHoneyHouse$Tape;") (List.mem_of_getElem? (i := 1) rfl)) (fun _ h9 => h9) rfl dX4_readEither_72 ?_
      have hFc := free_all hD hS hA
      refine va_callv (va_runV (As := []) (rest := []) ⟨hx, hb, hml, hown, hts⟩ (a_advance l D ws_525 ty_526 tp ktp tl te_553 ya_560 (nI ts_552) bb k_573 c9_574 t_575 f_576 H.size (by omega) (by omega) et_566 e_577 u_578) (cwV 0 hts gX4_readEither_X6_advance rfl rfl rfl (by decide +kernel) ⟨Nat.le_of_ble_eq_true rfl, Nat.le_of_ble_eq_true rfl⟩) ⟨fun a U g mk q => by obtain ⟨q0, q1, qP, qK, qD⟩ := q; exact ⟨q0, q1, qP, va_K.moved (u := U) (U := U.calling g mk a) (Vm.Alike.refl U.vm) qK, qD⟩, va_recv hK hP (ci := 6) (q0 := ktp) rfl et_566, fun U hU hW => ⟨rfl, by rw [hU], by rw [hU]; exact hP, va_K.moved hW.alike hK, hD.weaken (fun _ _ _ _ => trivial)⟩⟩ rfl rfl hl.1 rfl (lv_room (Nat.le_of_ble_eq_true rfl)) dX4_readEither_75 ⟨Nat.le_of_ble_eq_true rfl, Nat.le_of_ble_eq_true rfl⟩) hS (fun q _ h => hFc q h) hFc (fun u t H1 locs ht hvm w_581 hB hz1 hk1 hS => ?_)
      obtain ⟨ws_582, ty_583, hm_584, ht_586, hP1, hK1, hD1, hx_585⟩ := hB
      rw [ht] at hP1
      have hK := va_K.moved hvm.symm hK1
      have hD := hD1.weaken (fun _ _ _ h => hFc _ h)
      generalize H1 = H at hP1 hS ⊢
      have hP := hP1
      have e_587 := hm_584.objK er_565 (by decide)
      obtain ⟨g_589, e_588, h_590⟩ := hm_584.obj et_566
      obtain ⟨z_591, z_592, z_593, z_594, rfl⟩ := smX6 h_590
      obtain ⟨f_596, e_595⟩ := hm_584.arrI e_571
      have u_597 := ht_586 _ _ u_572
      obtain ⟨f_599, e_598⟩ := hm_584.arrI e_577
      have u_600 := ht_586 _ _ u_578
      have hsm := hsm.tr (hm_584.mono (by decide))
      have hlp_93 := hlp_93.tr (hm_584.mono (by decide))
      have htx := htx.tr ht_586
      obtain ⟨k_601, s_602, e_603, h_604, h_605, h_606, e_607⟩ := hx_585
      refine lv_aload_n hx hb dX4_readEither_78 rfl (lv_at hl 5 rfl) ?_
      refine lv_iload_n hx hb dX4_readEither_79 rfl (lv_at hl 4 rfl) ?_
      have hFc := free_all hD hS hA
      refine va_calli (va_runV (As := [.int 1]) (rest := []) ⟨hx, hb, hml, hown, hts⟩ (r_readOne1 l D ws_582 ty_583 adK adV fo rd krd tp ktp cd bb tl  H.size (⟨s_602, e_603, cc_554, ra_555, rb_556, rc_557, rv_558, re_559, nI k_601, by omega, by omega, by omega, by omega, e_587, e_607, ⟨k_567, c9_568, t_569, f_596, e_595, u_597⟩, ⟨k_573, c9_574, t_575, f_599, e_598, u_600⟩⟩ : RS ws_582 ty_583 rd krd tp ktp cd bb tl)) (cwV 1 hts gX4_readEither_X4_readOne rfl rfl rfl (by decide +kernel) ⟨Nat.le_of_ble_eq_true rfl, Nat.le_of_ble_eq_true rfl⟩) ⟨fun a U g mk q => by obtain ⟨q0, q1, qP, qK, qD, qS⟩ := q; exact ⟨q0, q1, qP, va_K.moved (u := U) (U := U.calling g mk a) (Vm.Alike.refl U.vm) qK, qD, SZ.same rfl rfl qS⟩, va_recv hK hP (ci := 4) (q0 := krd) rfl e_587, fun U hU hW => ⟨rfl, by rw [hU], by rw [hU]; exact hP, va_K.moved hW.alike hK, hD.weaken (fun _ _ _ _ => trivial), hsz9.go hS hW hU hFc⟩⟩ rfl rfl hl.1 rfl (lv_room (Nat.le_of_ble_eq_true rfl)) dX4_readEither_80 ⟨Nat.le_of_ble_eq_true rfl, Nat.le_of_ble_eq_true rfl⟩) hS (fun q _ h => hFc q h) hFc (fun r_608 u t H1 locs ht hvm w_609 hB hz1 hk1 hS => ?_)
      obtain ⟨ws_610, ty_611, hm_612, ht_614, hP1, hK1, hD1, hx_613⟩ := hB
      rw [ht] at hP1
      have hK := va_K.moved hvm.symm hK1
      have hD := hD1.weaken (fun _ _ _ h => hFc _ h)
      generalize H1 = H at hP1 hS ⊢
      have hP := hP1
      obtain ⟨g_616, e_615, h_617⟩ := hm_612.obj e_587
      obtain ⟨z_618, z_619, z_620, z_621, z_622, z_623, rfl⟩ := smX4 h_617
      obtain ⟨g_625, e_624, h_626⟩ := hm_612.obj e_607
      obtain ⟨z_627, z_628, z_629, z_630, rfl⟩ := smX6 h_626
      obtain ⟨f_632, e_631⟩ := hm_612.arrI e_595
      have u_633 := ht_614 _ _ u_597
      obtain ⟨f_635, e_634⟩ := hm_612.arrI e_598
      have u_636 := ht_614 _ _ u_600
      have hsm := hsm.tr (hm_612.mono (by decide))
      have hlp_93 := hlp_93.tr (hm_612.mono (by decide))
      have htx := htx.tr ht_614
      obtain ⟨ts_637, te_638, cc_639, ra_640, rb_641, rc_642, rv_643, re_644, ya_645, h1_646, h2_647, h3_648, h4_649, er_650, et_651, ⟨k_652, c9_653, t_654, f_655, e_656, u_657⟩, ⟨k_658, c9_659, t_660, f_661, e_662, u_663⟩⟩ := id hx_613
      refine lv_istore_n (lv' := [(2, .int r_608), (3, .int 1), (5, .int 0), (4, .int (nI i_85)), (1, .int 1), (0, .ref rd)]) hx hb dX4_readEither_83 rfl hl (by decide) rfl (fun ls hl => ?_)
      refine lv_iload hx hb dX4_readEither_84 (lv_at hl 2 rfl) ?_
      refine lv_if_eq (tgt := 95) hx hb dX4_readEither_86 (by decide) (fun c_664 => ?_) (fun c_664 => absurd (by decide) c_664)
      refine lv_iinc (v := nI (i_85 + 1)) (lv' := [(4, .int (nI (i_85 + 1))), (2, .int r_608), (3, .int 1), (5, .int 0), (1, .int 1), (0, .ref rd)]) hx hb dX4_readEither_95 hl (k := 3) rfl (nI_add i_85 1) (by decide) rfl (fun ls hl => ?_)
      refine lv_goto (tgt := 11) hx hb dX4_readEither_98 (by decide) ?_
      exact ih_84 (i_85 + 1, r_608, 1) ws_610 _ _ ls (by show 400 - (i_85 + 1) < 400 - i_85; omega) ⟨hlp_93, (⟨ts_637, te_638, cc_639, ra_640, rb_641, rc_642, rv_643, re_644, ya_645, by omega, by omega, by omega, by omega, er_650, et_651, ⟨k_652, c9_653, t_654, f_655, e_656, u_657⟩, ⟨k_658, c9_659, t_660, f_661, e_662, u_663⟩⟩ : RS ws_610 ty_611 rd krd tp ktp cd bb tl), (show (i_85 + 1) ≤ 400 from by omega), (show r_608 = 0 ∨ r_608 = 1 from w_609), (show 1 = 0 ∨ 1 = 1 from Or.inr rfl)⟩ hP hD hS (lv_sub hl [0, 1, 2, 4, 5] rfl)
    refine lv_iload hx hb dX4_readEither_60 (lv_at hl 0 rfl) ?_
    refine lv_if_ne (tgt := 69) hx hb dX4_readEither_62 (by decide) (fun c_665 => absurd (by decide) c_665) (fun c_665 => ?_)
    refine lv_iconst (v := 1) hx hb dX4_readEither_65 (by decide) ?_
    refine lv_goto (tgt := 70) hx hb dX4_readEither_66 (by decide) ?_
    refine lv_istore_n (lv' := [(3, .int 1), (5, .int 0), (4, .int (nI i_85)), (2, .int x_86), (1, .int 1), (0, .ref rd)]) hx hb dX4_readEither_70 rfl hl (by decide) rfl (fun ls hl => ?_)
    refine lv_aload_n hx hb dX4_readEither_71 rfl (lv_at hl 5 rfl) ?_
    refine va_get (D := D) (ci := 4) (v := .ref tp) (C := RX4) (T := TX4) (N := 8) hx hb hts hin4 hown hK hP krd er_565 rfl 0 (by decide) (hts (.fieldLink RX4 12 "HoneyHouse$RuleReader" "tape" "LHoneyHouse$Tape;") (List.mem_of_getElem? (i := 1) rfl)) (fun _ h9 => h9) rfl dX4_readEither_72 ?_
    have hFc := free_all hD hS hA
    refine va_callv (va_runV (As := []) (rest := []) ⟨hx, hb, hml, hown, hts⟩ (a_advance l D ws_525 ty_526 tp ktp tl te_553 ya_560 (nI ts_552) bb k_573 c9_574 t_575 f_576 H.size (by omega) (by omega) et_566 e_577 u_578) (cwV 0 hts gX4_readEither_X6_advance rfl rfl rfl (by decide +kernel) ⟨Nat.le_of_ble_eq_true rfl, Nat.le_of_ble_eq_true rfl⟩) ⟨fun a U g mk q => by obtain ⟨q0, q1, qP, qK, qD⟩ := q; exact ⟨q0, q1, qP, va_K.moved (u := U) (U := U.calling g mk a) (Vm.Alike.refl U.vm) qK, qD⟩, va_recv hK hP (ci := 6) (q0 := ktp) rfl et_566, fun U hU hW => ⟨rfl, by rw [hU], by rw [hU]; exact hP, va_K.moved hW.alike hK, hD.weaken (fun _ _ _ _ => trivial)⟩⟩ rfl rfl hl.1 rfl (lv_room (Nat.le_of_ble_eq_true rfl)) dX4_readEither_75 ⟨Nat.le_of_ble_eq_true rfl, Nat.le_of_ble_eq_true rfl⟩) hS (fun q _ h => hFc q h) hFc (fun u t H1 locs ht hvm w_667 hB hz1 hk1 hS => ?_)
    obtain ⟨ws_668, ty_669, hm_670, ht_672, hP1, hK1, hD1, hx_671⟩ := hB
    rw [ht] at hP1
    have hK := va_K.moved hvm.symm hK1
    have hD := hD1.weaken (fun _ _ _ h => hFc _ h)
    generalize H1 = H at hP1 hS ⊢
    have hP := hP1
    have e_673 := hm_670.objK er_565 (by decide)
    obtain ⟨g_675, e_674, h_676⟩ := hm_670.obj et_566
    obtain ⟨z_677, z_678, z_679, z_680, rfl⟩ := smX6 h_676
    obtain ⟨f_682, e_681⟩ := hm_670.arrI e_571
    have u_683 := ht_672 _ _ u_572
    obtain ⟨f_685, e_684⟩ := hm_670.arrI e_577
    have u_686 := ht_672 _ _ u_578
    have hsm := hsm.tr (hm_670.mono (by decide))
    have hlp_93 := hlp_93.tr (hm_670.mono (by decide))
    have htx := htx.tr ht_672
    obtain ⟨k_687, s_688, e_689, h_690, h_691, h_692, e_693⟩ := hx_671
    refine lv_aload_n hx hb dX4_readEither_78 rfl (lv_at hl 5 rfl) ?_
    refine lv_iload_n hx hb dX4_readEither_79 rfl (lv_at hl 4 rfl) ?_
    have hFc := free_all hD hS hA
    refine va_calli (va_runV (As := [.int 1]) (rest := []) ⟨hx, hb, hml, hown, hts⟩ (r_readOne1 l D ws_668 ty_669 adK adV fo rd krd tp ktp cd bb tl  H.size (⟨s_688, e_689, cc_554, ra_555, rb_556, rc_557, rv_558, re_559, nI k_687, by omega, by omega, by omega, by omega, e_673, e_693, ⟨k_567, c9_568, t_569, f_682, e_681, u_683⟩, ⟨k_573, c9_574, t_575, f_685, e_684, u_686⟩⟩ : RS ws_668 ty_669 rd krd tp ktp cd bb tl)) (cwV 1 hts gX4_readEither_X4_readOne rfl rfl rfl (by decide +kernel) ⟨Nat.le_of_ble_eq_true rfl, Nat.le_of_ble_eq_true rfl⟩) ⟨fun a U g mk q => by obtain ⟨q0, q1, qP, qK, qD, qS⟩ := q; exact ⟨q0, q1, qP, va_K.moved (u := U) (U := U.calling g mk a) (Vm.Alike.refl U.vm) qK, qD, SZ.same rfl rfl qS⟩, va_recv hK hP (ci := 4) (q0 := krd) rfl e_673, fun U hU hW => ⟨rfl, by rw [hU], by rw [hU]; exact hP, va_K.moved hW.alike hK, hD.weaken (fun _ _ _ _ => trivial), hsz9.go hS hW hU hFc⟩⟩ rfl rfl hl.1 rfl (lv_room (Nat.le_of_ble_eq_true rfl)) dX4_readEither_80 ⟨Nat.le_of_ble_eq_true rfl, Nat.le_of_ble_eq_true rfl⟩) hS (fun q _ h => hFc q h) hFc (fun r_694 u t H1 locs ht hvm w_695 hB hz1 hk1 hS => ?_)
    obtain ⟨ws_696, ty_697, hm_698, ht_700, hP1, hK1, hD1, hx_699⟩ := hB
    rw [ht] at hP1
    have hK := va_K.moved hvm.symm hK1
    have hD := hD1.weaken (fun _ _ _ h => hFc _ h)
    generalize H1 = H at hP1 hS ⊢
    have hP := hP1
    obtain ⟨g_702, e_701, h_703⟩ := hm_698.obj e_673
    obtain ⟨z_704, z_705, z_706, z_707, z_708, z_709, rfl⟩ := smX4 h_703
    obtain ⟨g_711, e_710, h_712⟩ := hm_698.obj e_693
    obtain ⟨z_713, z_714, z_715, z_716, rfl⟩ := smX6 h_712
    obtain ⟨f_718, e_717⟩ := hm_698.arrI e_681
    have u_719 := ht_700 _ _ u_683
    obtain ⟨f_721, e_720⟩ := hm_698.arrI e_684
    have u_722 := ht_700 _ _ u_686
    have hsm := hsm.tr (hm_698.mono (by decide))
    have hlp_93 := hlp_93.tr (hm_698.mono (by decide))
    have htx := htx.tr ht_700
    obtain ⟨ts_723, te_724, cc_725, ra_726, rb_727, rc_728, rv_729, re_730, ya_731, h1_732, h2_733, h3_734, h4_735, er_736, et_737, ⟨k_738, c9_739, t_740, f_741, e_742, u_743⟩, ⟨k_744, c9_745, t_746, f_747, e_748, u_749⟩⟩ := id hx_699
    refine lv_istore_n (lv' := [(2, .int r_694), (3, .int 1), (5, .int 0), (4, .int (nI i_85)), (1, .int 1), (0, .ref rd)]) hx hb dX4_readEither_83 rfl hl (by decide) rfl (fun ls hl => ?_)
    refine lv_iload hx hb dX4_readEither_84 (lv_at hl 2 rfl) ?_
    refine lv_if_eq (tgt := 95) hx hb dX4_readEither_86 (by decide) (fun c_750 => ?_) (fun c_750 => absurd (by decide) c_750)
    refine lv_iinc (v := nI (i_85 + 1)) (lv' := [(4, .int (nI (i_85 + 1))), (2, .int r_694), (3, .int 1), (5, .int 0), (1, .int 1), (0, .ref rd)]) hx hb dX4_readEither_95 hl (k := 3) rfl (nI_add i_85 1) (by decide) rfl (fun ls hl => ?_)
    refine lv_goto (tgt := 11) hx hb dX4_readEither_98 (by decide) ?_
    exact ih_84 (i_85 + 1, r_694, 1) ws_696 _ _ ls (by show 400 - (i_85 + 1) < 400 - i_85; omega) ⟨hlp_93, (⟨ts_723, te_724, cc_725, ra_726, rb_727, rc_728, rv_729, re_730, ya_731, by omega, by omega, by omega, by omega, er_736, et_737, ⟨k_738, c9_739, t_740, f_741, e_742, u_743⟩, ⟨k_744, c9_745, t_746, f_747, e_748, u_749⟩⟩ : RS ws_696 ty_697 rd krd tp ktp cd bb tl), (show (i_85 + 1) ≤ 400 from by omega), (show r_694 = 0 ∨ r_694 = 1 from w_695), (show 1 = 0 ∨ 1 = 1 from Or.inr rfl)⟩ hP hD hS (lv_sub hl [0, 1, 2, 4, 5] rfl)
  refine lv_istore (lv' := [(5, .int 1), (4, .int (nI i_85)), (2, .int x_86), (3, .int y_87), (1, .int 1), (0, .ref rd)]) hx hb dX4_readEither_39 hl (by decide) rfl (fun ls hl => ?_)
  refine lv_iload hx hb dX4_readEither_41 (lv_at hl 0 rfl) ?_
  refine lv_if_ne (tgt := 56) hx hb dX4_readEither_43 (by decide) (fun c_751 => ?_) (fun c_751 => absurd c_751 (by decide))
  refine lv_iload_n hx hb dX4_readEither_56 rfl (lv_at hl 3 rfl) ?_
  refine lv_if_ne (tgt := 65) hx hb dX4_readEither_57 (by decide) (fun c_752 => ?_) (fun c_752 => ?_)
  · refine lv_iconst (v := 1) hx hb dX4_readEither_65 (by decide) ?_
    refine lv_goto (tgt := 70) hx hb dX4_readEither_66 (by decide) ?_
    refine lv_istore_n (lv' := [(3, .int 1), (5, .int 1), (4, .int (nI i_85)), (2, .int x_86), (1, .int 1), (0, .ref rd)]) hx hb dX4_readEither_70 rfl hl (by decide) rfl (fun ls hl => ?_)
    refine lv_aload_n hx hb dX4_readEither_71 rfl (lv_at hl 5 rfl) ?_
    refine va_get (D := D) (ci := 4) (v := .ref tp) (C := RX4) (T := TX4) (N := 8) hx hb hts hin4 hown hK hP krd e_341 rfl 0 (by decide) (hts (.fieldLink RX4 12 "HoneyHouse$RuleReader" "tape" "LHoneyHouse$Tape;") (List.mem_of_getElem? (i := 1) rfl)) (fun _ h9 => h9) rfl dX4_readEither_72 ?_
    have hFc := free_all hD hS hA
    refine va_callv (va_runV (As := []) (rest := []) ⟨hx, hb, hml, hown, hts⟩ (a_advance l D ws_336 ty_337 tp ktp tl te_116 ya_123 (nI ts_115) bb k_136 c9_137 t_138 f_347 H.size (by omega) (by omega) e_342 e_346 u_348) (cwV 0 hts gX4_readEither_X6_advance rfl rfl rfl (by decide +kernel) ⟨Nat.le_of_ble_eq_true rfl, Nat.le_of_ble_eq_true rfl⟩) ⟨fun a U g mk q => by obtain ⟨q0, q1, qP, qK, qD⟩ := q; exact ⟨q0, q1, qP, va_K.moved (u := U) (U := U.calling g mk a) (Vm.Alike.refl U.vm) qK, qD⟩, va_recv hK hP (ci := 6) (q0 := ktp) rfl e_342, fun U hU hW => ⟨rfl, by rw [hU], by rw [hU]; exact hP, va_K.moved hW.alike hK, hD.weaken (fun _ _ _ _ => trivial)⟩⟩ rfl rfl hl.1 rfl (lv_room (Nat.le_of_ble_eq_true rfl)) dX4_readEither_75 ⟨Nat.le_of_ble_eq_true rfl, Nat.le_of_ble_eq_true rfl⟩) hS (fun q _ h => hFc q h) hFc (fun u t H1 locs ht hvm w_754 hB hz1 hk1 hS => ?_)
    obtain ⟨ws_755, ty_756, hm_757, ht_759, hP1, hK1, hD1, hx_758⟩ := hB
    rw [ht] at hP1
    have hK := va_K.moved hvm.symm hK1
    have hD := hD1.weaken (fun _ _ _ h => hFc _ h)
    generalize H1 = H at hP1 hS ⊢
    have hP := hP1
    have e_760 := hm_757.objK e_341 (by decide)
    obtain ⟨g_762, e_761, h_763⟩ := hm_757.obj e_342
    obtain ⟨z_764, z_765, z_766, z_767, rfl⟩ := smX6 h_763
    obtain ⟨f_769, e_768⟩ := hm_757.arrI e_343
    have u_770 := ht_759 _ _ u_345
    obtain ⟨f_772, e_771⟩ := hm_757.arrI e_346
    have u_773 := ht_759 _ _ u_348
    have hsm := hsm.tr (hm_757.mono (by decide))
    have hlp_93 := hlp_93.tr (hm_757.mono (by decide))
    have htx := htx.tr ht_759
    obtain ⟨k_774, s_775, e_776, h_777, h_778, h_779, e_780⟩ := hx_758
    refine lv_aload_n hx hb dX4_readEither_78 rfl (lv_at hl 5 rfl) ?_
    refine lv_iload_n hx hb dX4_readEither_79 rfl (lv_at hl 4 rfl) ?_
    have hFc := free_all hD hS hA
    refine va_calli (va_runV (As := [.int 1]) (rest := []) ⟨hx, hb, hml, hown, hts⟩ (r_readOne1 l D ws_755 ty_756 adK adV fo rd krd tp ktp cd bb tl  H.size (⟨s_775, e_776, cc_117, ra_118, rb_119, rc_120, rv_121, re_122, nI k_774, by omega, by omega, by omega, by omega, e_760, e_780, ⟨k_130, c9_131, t_132, f_769, e_768, u_770⟩, ⟨k_136, c9_137, t_138, f_772, e_771, u_773⟩⟩ : RS ws_755 ty_756 rd krd tp ktp cd bb tl)) (cwV 1 hts gX4_readEither_X4_readOne rfl rfl rfl (by decide +kernel) ⟨Nat.le_of_ble_eq_true rfl, Nat.le_of_ble_eq_true rfl⟩) ⟨fun a U g mk q => by obtain ⟨q0, q1, qP, qK, qD, qS⟩ := q; exact ⟨q0, q1, qP, va_K.moved (u := U) (U := U.calling g mk a) (Vm.Alike.refl U.vm) qK, qD, SZ.same rfl rfl qS⟩, va_recv hK hP (ci := 4) (q0 := krd) rfl e_760, fun U hU hW => ⟨rfl, by rw [hU], by rw [hU]; exact hP, va_K.moved hW.alike hK, hD.weaken (fun _ _ _ _ => trivial), hsz9.go hS hW hU hFc⟩⟩ rfl rfl hl.1 rfl (lv_room (Nat.le_of_ble_eq_true rfl)) dX4_readEither_80 ⟨Nat.le_of_ble_eq_true rfl, Nat.le_of_ble_eq_true rfl⟩) hS (fun q _ h => hFc q h) hFc (fun r_781 u t H1 locs ht hvm w_782 hB hz1 hk1 hS => ?_)
    obtain ⟨ws_783, ty_784, hm_785, ht_787, hP1, hK1, hD1, hx_786⟩ := hB
    rw [ht] at hP1
    have hK := va_K.moved hvm.symm hK1
    have hD := hD1.weaken (fun _ _ _ h => hFc _ h)
    generalize H1 = H at hP1 hS ⊢
    have hP := hP1
    obtain ⟨g_789, e_788, h_790⟩ := hm_785.obj e_760
    obtain ⟨z_791, z_792, z_793, z_794, z_795, z_796, rfl⟩ := smX4 h_790
    obtain ⟨g_798, e_797, h_799⟩ := hm_785.obj e_780
    obtain ⟨z_800, z_801, z_802, z_803, rfl⟩ := smX6 h_799
    obtain ⟨f_805, e_804⟩ := hm_785.arrI e_768
    have u_806 := ht_787 _ _ u_770
    obtain ⟨f_808, e_807⟩ := hm_785.arrI e_771
    have u_809 := ht_787 _ _ u_773
    have hsm := hsm.tr (hm_785.mono (by decide))
    have hlp_93 := hlp_93.tr (hm_785.mono (by decide))
    have htx := htx.tr ht_787
    obtain ⟨ts_810, te_811, cc_812, ra_813, rb_814, rc_815, rv_816, re_817, ya_818, h1_819, h2_820, h3_821, h4_822, er_823, et_824, ⟨k_825, c9_826, t_827, f_828, e_829, u_830⟩, ⟨k_831, c9_832, t_833, f_834, e_835, u_836⟩⟩ := id hx_786
    refine lv_istore_n (lv' := [(2, .int r_781), (3, .int 1), (5, .int 1), (4, .int (nI i_85)), (1, .int 1), (0, .ref rd)]) hx hb dX4_readEither_83 rfl hl (by decide) rfl (fun ls hl => ?_)
    refine lv_iload hx hb dX4_readEither_84 (lv_at hl 2 rfl) ?_
    refine lv_if_eq (tgt := 95) hx hb dX4_readEither_86 (by decide) (fun c_837 => absurd c_837 (by decide)) (fun c_837 => ?_)
    refine lv_aload_n hx hb dX4_readEither_89 rfl (lv_at hl 5 rfl) ?_
    refine lv_bipush (v := (-2)) hx hb dX4_readEither_90 (by decide) ?_
    have hFc := free_all hD hS hA
    refine va_callv (va_runV (As := [.int (-2)]) (rest := []) ⟨hx, hb, hml, hown, hts⟩ (r_addCode l D ws_783 ty_784 adK adV fo rd krd tp ktp cd bb tl (-2) H.size (⟨ts_810, te_811, cc_812, ra_813, rb_814, rc_815, rv_816, re_817, ya_818, by omega, by omega, by omega, by omega, er_823, et_824, ⟨k_825, c9_826, t_827, f_828, e_829, u_830⟩, ⟨k_831, c9_832, t_833, f_834, e_835, u_836⟩⟩ : RS ws_783 ty_784 rd krd tp ktp cd bb tl)) (cwV 1 hts gX4_readEither_X4_addCode rfl rfl rfl (by decide +kernel) ⟨Nat.le_of_ble_eq_true rfl, Nat.le_of_ble_eq_true rfl⟩) ⟨fun a U g mk q => by obtain ⟨q0, q1, qP, qK, qD, qS⟩ := q; exact ⟨q0, q1, qP, va_K.moved (u := U) (U := U.calling g mk a) (Vm.Alike.refl U.vm) qK, qD, SZ.same rfl rfl qS⟩, va_recv hK hP (ci := 4) (q0 := krd) rfl er_823, fun U hU hW => ⟨rfl, by rw [hU], by rw [hU]; exact hP, va_K.moved hW.alike hK, hD.weaken (fun _ _ _ _ => trivial), hsz9.go hS hW hU hFc⟩⟩ rfl rfl hl.1 rfl (lv_room (Nat.le_of_ble_eq_true rfl)) dX4_readEither_92 ⟨Nat.le_of_ble_eq_true rfl, Nat.le_of_ble_eq_true rfl⟩) hS (fun q _ h => hFc q h) hFc (fun u t H1 locs ht hvm w_839 hB hz1 hk1 hS => ?_)
    obtain ⟨ws_840, ty_841, hm_842, ht_844, hP1, hK1, hD1, hx_843⟩ := hB
    rw [ht] at hP1
    have hK := va_K.moved hvm.symm hK1
    have hD := hD1.weaken (fun _ _ _ h => hFc _ h)
    generalize H1 = H at hP1 hS ⊢
    have hP := hP1
    obtain ⟨g_846, e_845, h_847⟩ := hm_842.obj er_823
    obtain ⟨z_848, z_849, z_850, z_851, z_852, z_853, rfl⟩ := smX4 h_847
    obtain ⟨g_855, e_854, h_856⟩ := hm_842.obj et_824
    obtain ⟨z_857, z_858, z_859, z_860, rfl⟩ := smX6 h_856
    obtain ⟨f_862, e_861⟩ := hm_842.arrI e_829
    have u_863 := ht_844 _ _ u_830
    obtain ⟨f_865, e_864⟩ := hm_842.arrI e_835
    have u_866 := ht_844 _ _ u_836
    have hsm := hsm.tr (hm_842.mono (by decide))
    have hlp_93 := hlp_93.tr (hm_842.mono (by decide))
    have htx := htx.tr ht_844
    obtain ⟨ts_867, te_868, cc_869, ra_870, rb_871, rc_872, rv_873, re_874, ya_875, h1_876, h2_877, h3_878, h4_879, er_880, et_881, ⟨k_882, c9_883, t_884, f_885, e_886, u_887⟩, ⟨k_888, c9_889, t_890, f_891, e_892, u_893⟩⟩ := id hx_843
    refine lv_iinc (v := nI (i_85 + 1)) (lv' := [(4, .int (nI (i_85 + 1))), (2, .int r_781), (3, .int 1), (5, .int 1), (1, .int 1), (0, .ref rd)]) hx hb dX4_readEither_95 hl (k := 3) rfl (nI_add i_85 1) (by decide) rfl (fun ls hl => ?_)
    refine lv_goto (tgt := 11) hx hb dX4_readEither_98 (by decide) ?_
    exact ih_84 (i_85 + 1, r_781, 1) ws_840 _ _ ls (by show 400 - (i_85 + 1) < 400 - i_85; omega) ⟨hlp_93, (⟨ts_867, te_868, cc_869, ra_870, rb_871, rc_872, rv_873, re_874, ya_875, by omega, by omega, by omega, by omega, er_880, et_881, ⟨k_882, c9_883, t_884, f_885, e_886, u_887⟩, ⟨k_888, c9_889, t_890, f_891, e_892, u_893⟩⟩ : RS ws_840 ty_841 rd krd tp ktp cd bb tl), (show (i_85 + 1) ≤ 400 from by omega), (show r_781 = 0 ∨ r_781 = 1 from w_782), (show 1 = 0 ∨ 1 = 1 from Or.inr rfl)⟩ hP hD hS (lv_sub hl [0, 1, 2, 4, 5] rfl)
  refine lv_iload hx hb dX4_readEither_60 (lv_at hl 0 rfl) ?_
  refine lv_if_ne (tgt := 69) hx hb dX4_readEither_62 (by decide) (fun c_894 => ?_) (fun c_894 => absurd c_894 (by decide))
  refine lv_iconst (v := 0) hx hb dX4_readEither_69 (by decide) ?_
  refine lv_istore_n (lv' := [(3, .int 0), (5, .int 1), (4, .int (nI i_85)), (2, .int x_86), (1, .int 1), (0, .ref rd)]) hx hb dX4_readEither_70 rfl hl (by decide) rfl (fun ls hl => ?_)
  refine lv_aload_n hx hb dX4_readEither_71 rfl (lv_at hl 5 rfl) ?_
  refine va_get (D := D) (ci := 4) (v := .ref tp) (C := RX4) (T := TX4) (N := 8) hx hb hts hin4 hown hK hP krd e_341 rfl 0 (by decide) (hts (.fieldLink RX4 12 "HoneyHouse$RuleReader" "tape" "LHoneyHouse$Tape;") (List.mem_of_getElem? (i := 1) rfl)) (fun _ h9 => h9) rfl dX4_readEither_72 ?_
  have hFc := free_all hD hS hA
  refine va_callv (va_runV (As := []) (rest := []) ⟨hx, hb, hml, hown, hts⟩ (a_advance l D ws_336 ty_337 tp ktp tl te_116 ya_123 (nI ts_115) bb k_136 c9_137 t_138 f_347 H.size (by omega) (by omega) e_342 e_346 u_348) (cwV 0 hts gX4_readEither_X6_advance rfl rfl rfl (by decide +kernel) ⟨Nat.le_of_ble_eq_true rfl, Nat.le_of_ble_eq_true rfl⟩) ⟨fun a U g mk q => by obtain ⟨q0, q1, qP, qK, qD⟩ := q; exact ⟨q0, q1, qP, va_K.moved (u := U) (U := U.calling g mk a) (Vm.Alike.refl U.vm) qK, qD⟩, va_recv hK hP (ci := 6) (q0 := ktp) rfl e_342, fun U hU hW => ⟨rfl, by rw [hU], by rw [hU]; exact hP, va_K.moved hW.alike hK, hD.weaken (fun _ _ _ _ => trivial)⟩⟩ rfl rfl hl.1 rfl (lv_room (Nat.le_of_ble_eq_true rfl)) dX4_readEither_75 ⟨Nat.le_of_ble_eq_true rfl, Nat.le_of_ble_eq_true rfl⟩) hS (fun q _ h => hFc q h) hFc (fun u t H1 locs ht hvm w_896 hB hz1 hk1 hS => ?_)
  obtain ⟨ws_897, ty_898, hm_899, ht_901, hP1, hK1, hD1, hx_900⟩ := hB
  rw [ht] at hP1
  have hK := va_K.moved hvm.symm hK1
  have hD := hD1.weaken (fun _ _ _ h => hFc _ h)
  generalize H1 = H at hP1 hS ⊢
  have hP := hP1
  have e_902 := hm_899.objK e_341 (by decide)
  obtain ⟨g_904, e_903, h_905⟩ := hm_899.obj e_342
  obtain ⟨z_906, z_907, z_908, z_909, rfl⟩ := smX6 h_905
  obtain ⟨f_911, e_910⟩ := hm_899.arrI e_343
  have u_912 := ht_901 _ _ u_345
  obtain ⟨f_914, e_913⟩ := hm_899.arrI e_346
  have u_915 := ht_901 _ _ u_348
  have hsm := hsm.tr (hm_899.mono (by decide))
  have hlp_93 := hlp_93.tr (hm_899.mono (by decide))
  have htx := htx.tr ht_901
  obtain ⟨k_916, s_917, e_918, h_919, h_920, h_921, e_922⟩ := hx_900
  refine lv_aload_n hx hb dX4_readEither_78 rfl (lv_at hl 5 rfl) ?_
  refine lv_iload_n hx hb dX4_readEither_79 rfl (lv_at hl 4 rfl) ?_
  have hFc := free_all hD hS hA
  refine va_calli (va_runV (As := [.int 1]) (rest := []) ⟨hx, hb, hml, hown, hts⟩ (r_readOne1 l D ws_897 ty_898 adK adV fo rd krd tp ktp cd bb tl  H.size (⟨s_917, e_918, cc_117, ra_118, rb_119, rc_120, rv_121, re_122, nI k_916, by omega, by omega, by omega, by omega, e_902, e_922, ⟨k_130, c9_131, t_132, f_911, e_910, u_912⟩, ⟨k_136, c9_137, t_138, f_914, e_913, u_915⟩⟩ : RS ws_897 ty_898 rd krd tp ktp cd bb tl)) (cwV 1 hts gX4_readEither_X4_readOne rfl rfl rfl (by decide +kernel) ⟨Nat.le_of_ble_eq_true rfl, Nat.le_of_ble_eq_true rfl⟩) ⟨fun a U g mk q => by obtain ⟨q0, q1, qP, qK, qD, qS⟩ := q; exact ⟨q0, q1, qP, va_K.moved (u := U) (U := U.calling g mk a) (Vm.Alike.refl U.vm) qK, qD, SZ.same rfl rfl qS⟩, va_recv hK hP (ci := 4) (q0 := krd) rfl e_902, fun U hU hW => ⟨rfl, by rw [hU], by rw [hU]; exact hP, va_K.moved hW.alike hK, hD.weaken (fun _ _ _ _ => trivial), hsz9.go hS hW hU hFc⟩⟩ rfl rfl hl.1 rfl (lv_room (Nat.le_of_ble_eq_true rfl)) dX4_readEither_80 ⟨Nat.le_of_ble_eq_true rfl, Nat.le_of_ble_eq_true rfl⟩) hS (fun q _ h => hFc q h) hFc (fun r_923 u t H1 locs ht hvm w_924 hB hz1 hk1 hS => ?_)
  obtain ⟨ws_925, ty_926, hm_927, ht_929, hP1, hK1, hD1, hx_928⟩ := hB
  rw [ht] at hP1
  have hK := va_K.moved hvm.symm hK1
  have hD := hD1.weaken (fun _ _ _ h => hFc _ h)
  generalize H1 = H at hP1 hS ⊢
  have hP := hP1
  obtain ⟨g_931, e_930, h_932⟩ := hm_927.obj e_902
  obtain ⟨z_933, z_934, z_935, z_936, z_937, z_938, rfl⟩ := smX4 h_932
  obtain ⟨g_940, e_939, h_941⟩ := hm_927.obj e_922
  obtain ⟨z_942, z_943, z_944, z_945, rfl⟩ := smX6 h_941
  obtain ⟨f_947, e_946⟩ := hm_927.arrI e_910
  have u_948 := ht_929 _ _ u_912
  obtain ⟨f_950, e_949⟩ := hm_927.arrI e_913
  have u_951 := ht_929 _ _ u_915
  have hsm := hsm.tr (hm_927.mono (by decide))
  have hlp_93 := hlp_93.tr (hm_927.mono (by decide))
  have htx := htx.tr ht_929
  obtain ⟨ts_952, te_953, cc_954, ra_955, rb_956, rc_957, rv_958, re_959, ya_960, h1_961, h2_962, h3_963, h4_964, er_965, et_966, ⟨k_967, c9_968, t_969, f_970, e_971, u_972⟩, ⟨k_973, c9_974, t_975, f_976, e_977, u_978⟩⟩ := id hx_928
  refine lv_istore_n (lv' := [(2, .int r_923), (3, .int 0), (5, .int 1), (4, .int (nI i_85)), (1, .int 1), (0, .ref rd)]) hx hb dX4_readEither_83 rfl hl (by decide) rfl (fun ls hl => ?_)
  refine lv_iload hx hb dX4_readEither_84 (lv_at hl 2 rfl) ?_
  refine lv_if_eq (tgt := 95) hx hb dX4_readEither_86 (by decide) (fun c_979 => absurd c_979 (by decide)) (fun c_979 => ?_)
  refine lv_aload_n hx hb dX4_readEither_89 rfl (lv_at hl 5 rfl) ?_
  refine lv_bipush (v := (-2)) hx hb dX4_readEither_90 (by decide) ?_
  have hFc := free_all hD hS hA
  refine va_callv (va_runV (As := [.int (-2)]) (rest := []) ⟨hx, hb, hml, hown, hts⟩ (r_addCode l D ws_925 ty_926 adK adV fo rd krd tp ktp cd bb tl (-2) H.size (⟨ts_952, te_953, cc_954, ra_955, rb_956, rc_957, rv_958, re_959, ya_960, by omega, by omega, by omega, by omega, er_965, et_966, ⟨k_967, c9_968, t_969, f_970, e_971, u_972⟩, ⟨k_973, c9_974, t_975, f_976, e_977, u_978⟩⟩ : RS ws_925 ty_926 rd krd tp ktp cd bb tl)) (cwV 1 hts gX4_readEither_X4_addCode rfl rfl rfl (by decide +kernel) ⟨Nat.le_of_ble_eq_true rfl, Nat.le_of_ble_eq_true rfl⟩) ⟨fun a U g mk q => by obtain ⟨q0, q1, qP, qK, qD, qS⟩ := q; exact ⟨q0, q1, qP, va_K.moved (u := U) (U := U.calling g mk a) (Vm.Alike.refl U.vm) qK, qD, SZ.same rfl rfl qS⟩, va_recv hK hP (ci := 4) (q0 := krd) rfl er_965, fun U hU hW => ⟨rfl, by rw [hU], by rw [hU]; exact hP, va_K.moved hW.alike hK, hD.weaken (fun _ _ _ _ => trivial), hsz9.go hS hW hU hFc⟩⟩ rfl rfl hl.1 rfl (lv_room (Nat.le_of_ble_eq_true rfl)) dX4_readEither_92 ⟨Nat.le_of_ble_eq_true rfl, Nat.le_of_ble_eq_true rfl⟩) hS (fun q _ h => hFc q h) hFc (fun u t H1 locs ht hvm w_981 hB hz1 hk1 hS => ?_)
  obtain ⟨ws_982, ty_983, hm_984, ht_986, hP1, hK1, hD1, hx_985⟩ := hB
  rw [ht] at hP1
  have hK := va_K.moved hvm.symm hK1
  have hD := hD1.weaken (fun _ _ _ h => hFc _ h)
  generalize H1 = H at hP1 hS ⊢
  have hP := hP1
  obtain ⟨g_988, e_987, h_989⟩ := hm_984.obj er_965
  obtain ⟨z_990, z_991, z_992, z_993, z_994, z_995, rfl⟩ := smX4 h_989
  obtain ⟨g_997, e_996, h_998⟩ := hm_984.obj et_966
  obtain ⟨z_999, z_1000, z_1001, z_1002, rfl⟩ := smX6 h_998
  obtain ⟨f_1004, e_1003⟩ := hm_984.arrI e_971
  have u_1005 := ht_986 _ _ u_972
  obtain ⟨f_1007, e_1006⟩ := hm_984.arrI e_977
  have u_1008 := ht_986 _ _ u_978
  have hsm := hsm.tr (hm_984.mono (by decide))
  have hlp_93 := hlp_93.tr (hm_984.mono (by decide))
  have htx := htx.tr ht_986
  obtain ⟨ts_1009, te_1010, cc_1011, ra_1012, rb_1013, rc_1014, rv_1015, re_1016, ya_1017, h1_1018, h2_1019, h3_1020, h4_1021, er_1022, et_1023, ⟨k_1024, c9_1025, t_1026, f_1027, e_1028, u_1029⟩, ⟨k_1030, c9_1031, t_1032, f_1033, e_1034, u_1035⟩⟩ := id hx_985
  refine lv_iinc (v := nI (i_85 + 1)) (lv' := [(4, .int (nI (i_85 + 1))), (2, .int r_923), (3, .int 0), (5, .int 1), (1, .int 1), (0, .ref rd)]) hx hb dX4_readEither_95 hl (k := 3) rfl (nI_add i_85 1) (by decide) rfl (fun ls hl => ?_)
  refine lv_goto (tgt := 11) hx hb dX4_readEither_98 (by decide) ?_
  exact ih_84 (i_85 + 1, r_923, 0) ws_982 _ _ ls (by show 400 - (i_85 + 1) < 400 - i_85; omega) ⟨hlp_93, (⟨ts_1009, te_1010, cc_1011, ra_1012, rb_1013, rc_1014, rv_1015, re_1016, ya_1017, by omega, by omega, by omega, by omega, er_1022, et_1023, ⟨k_1024, c9_1025, t_1026, f_1027, e_1028, u_1029⟩, ⟨k_1030, c9_1031, t_1032, f_1033, e_1034, u_1035⟩⟩ : RS ws_982 ty_983 rd krd tp ktp cd bb tl), (show (i_85 + 1) ≤ 400 from by omega), (show r_923 = 0 ∨ r_923 = 1 from w_924), (show 0 = 0 ∨ 0 = 1 from Or.inl rfl)⟩ hP hD hS (lv_sub hl [0, 1, 2, 4, 5] rfl)
set_option maxHeartbeats 4000000 in
set_option maxRecDepth 100000 in
theorem r_readOne0 (l : Launch) (D : va_G) (ws : va_W) (tys : List (ClassId × FieldType)) (adK adV : Nat → Nat) (fo : Option Nat) (rd krd tp ktp cd bb tl : Nat)  (sz : Nat) (R0 : RS ws tys rd krd tp ktp cd bb tl)  : Met l yX4_readOne wsX4_readOne ({ frames := 19, cells := 0, slots := 0, locals := 437 }) (va_Pc [.ref rd, .int 0] (fun U => U.heap.size = sz ∧ va_P D vwCl ws U.heap ∧ va_K D vwCl tys U ∧ va_D (fun _ => True) ws ∧ SZ adK adV fo (va_A ws sz) U U.heap)) (va_Qi (fun (r : Int32) (_ : Unit) => r = 0 ∨ r = 1) (fun (_ : Unit) (t : State) => ∃ (ws' : va_W) (tys' : List (ClassId × FieldType)), sm [4, 6] ws ws' ∧ tyx tys tys' ∧ va_P D vwCl ws' t.heap ∧ va_K D vwCl tys' t ∧ va_D (va_A ws sz) ws' ∧ RS ws' tys' rd krd tp ktp cd bb tl) (va_A ws sz)) 0 0 (va_A ws sz) := by
  refine Met.ofW (cc := cX4_readOne) (maxL := 4) (ret := (some .boolean)) (by decide) rfl ?_
  intro p e s m args below meth c s₁ B hml hv
  obtain ⟨rfl, hsz, hP, hK, hD0, hsz9⟩ := hv
  have hx := B.exec
  have hb := B.bytes
  have hr := B.returns
  have hts := atoms_spec (ws := wsX4_readOne) B.pre
  have hown : s.vm.findClass RX4 = some m.cls := findClass_of_methodNamed B.named
  have hlocks := B.notSynchronized
  subst hsz
  have hD := hD0.self (sz := s.heap.size)
  generalize hAe : va_A ws s.heap.size = A at hD hsz9 ⊢
  have hA : ∀ q : Nat, s.heap.size ≤ q → A q := fun q h => by rw [← hAe]; exact Or.inr h
  have hS : va_S A s.heap s.heap [] := va_S.rf
  have hsm : sm [4, 6] ws ws := sm.rf ws
  have htx : tyx tys tys := tyx.rf tys
  have hin4 : ∀ w ∈ u_ws RX4 TX4 8, w ∈ wsX4_readOne := (fun _ h9 => List.mem_cons_of_mem _ (List.mem_append_left _ ((List.mem_append_right _ h9))))
  have hl := lv_entry ([.ref rd, .int 0]) (n := 4) (Nat.le_of_ble_eq_true rfl)
  rw [lg_entry_eq]
  generalize (lg_sl ([.ref rd, .int 0]) ++ List.replicate (4 - (lg_sl ([.ref rd, .int 0])).length) Slot.unset).toArray = ls at hl ⊢
  have hl : lv_has ls 4 [(0, .ref rd), (1, .int 0)] := hl
  obtain ⟨ts_1, te_2, cc_3, ra_4, rb_5, rc_6, rv_7, re_8, ya_9, h1_10, h2_11, h3_12, h4_13, er_14, et_15, ⟨k_16, c9_17, t_18, f_19, e_20, u_21⟩, ⟨k_22, c9_23, t_24, f_25, e_26, u_27⟩⟩ := id R0
  refine lv_aload_n hx hb dX4_readOne_0 rfl (lv_at hl 0 rfl) ?_
  refine va_get (D := D) (ci := 4) (v := .ref tp) (C := RX4) (T := TX4) (N := 8) hx hb hts hin4 hown hK hP krd er_14 rfl 0 (by decide) (hts (.fieldLink RX4 12 "HoneyHouse$RuleReader" "tape" "LHoneyHouse$Tape;") (List.mem_of_getElem? (i := 1) rfl)) (fun _ h9 => h9) rfl dX4_readOne_1 ?_
  refine va_ldcS hx hb hown hsz9.2.2.2.2.2.2.1 dX4_readOne_4 ?_
  have hFc := free_all hD hS hA
  refine va_calli (va_runV (As := [.ref (adK 3)]) (rest := []) ⟨hx, hb, hml, hown, hts⟩ (a_isWord l D ws tys adK adV fo 3 tp ktp tl ya_9 (nI ts_1) (nI te_2) bb k_22 c9_23 t_24 f_25 s.heap.size (by decide) et_15 e_26 u_27) (cwV 1 hts gX4_readOne_X6_isWord rfl rfl rfl (by decide +kernel) ⟨Nat.le_of_ble_eq_true rfl, Nat.le_of_ble_eq_true rfl⟩) ⟨fun a U g mk q => by obtain ⟨q0, q1, qP, qK, qD, qS⟩ := q; exact ⟨q0, q1, qP, va_K.moved (u := U) (U := U.calling g mk a) (Vm.Alike.refl U.vm) qK, qD, SZ.same rfl rfl qS⟩, va_recv hK hP (ci := 6) (q0 := ktp) rfl et_15, fun U hU hW => ⟨rfl, by rw [hU], by rw [hU]; exact hP, va_K.moved hW.alike hK, hD.weaken (fun _ _ _ _ => trivial), hsz9.go hS hW hU hFc⟩⟩ rfl rfl hl.1 rfl (lv_room (Nat.le_of_ble_eq_true rfl)) dX4_readOne_6 ⟨Nat.le_of_ble_eq_true rfl, Nat.le_of_ble_eq_true rfl⟩) hS (fun q _ h => hFc q h) hFc (fun r_28 u t H1 locs ht hvm w_29 hB hz1 hk1 hS => ?_)
  obtain ⟨ws_30, ty_31, hm_32, ht_34, hP1, hK1, hD1, hx_33⟩ := hB
  rw [ht] at hP1
  have hK := va_K.moved hvm.symm hK1
  have hD := hD1.weaken (fun _ _ _ h => hFc _ h)
  generalize H1 = H at hP1 hS ⊢
  have hP := hP1
  have e_35 := hm_32.objK er_14 (by decide)
  have e_36 := hm_32.objK et_15 (by decide)
  obtain ⟨f_38, e_37⟩ := hm_32.arrI e_20
  have u_39 := ht_34 _ _ u_21
  obtain ⟨f_41, e_40⟩ := hm_32.arrI e_26
  have u_42 := ht_34 _ _ u_27
  have hsm := hsm.tr (hm_32.mono (by decide))
  have htx := htx.tr ht_34
  rcases w_29 with rfl | rfl
  · refine lv_istore_n (lv' := [(2, .int 0), (0, .ref rd), (1, .int 0)]) hx hb dX4_readOne_9 rfl hl (by decide) rfl (fun ls hl => ?_)
    refine lv_iload_n hx hb dX4_readOne_10 rfl (lv_at hl 0 rfl) ?_
    refine lv_if_ne (tgt := 31) hx hb dX4_readOne_11 (by decide) (fun c_43 => absurd (by decide) c_43) (fun c_43 => ?_)
    refine lv_aload_n hx hb dX4_readOne_14 rfl (lv_at hl 1 rfl) ?_
    refine va_get (D := D) (ci := 4) (v := .ref tp) (C := RX4) (T := TX4) (N := 8) hx hb hts hin4 hown hK hP krd e_35 rfl 0 (by decide) (hts (.fieldLink RX4 12 "HoneyHouse$RuleReader" "tape" "LHoneyHouse$Tape;") (List.mem_of_getElem? (i := 1) rfl)) (fun _ h9 => h9) rfl dX4_readOne_15 ?_
    refine lv_bipush (v := 40) hx hb dX4_readOne_18 (by decide) ?_
    refine vp_callSi (W.runV (As := [.int 40]) (rest := []) ⟨hx, hb, hml, hown, hts⟩ (s_isByte l D ws_30 ty_31 tp ktp tl ya_9 (nI ts_1) (nI te_2) bb k_22 c9_23 t_24 f_41 40 e_36 e_40 u_42) (cwV 1 hts gX4_readOne_X6_isByte rfl rfl rfl (by decide +kernel) ⟨Nat.le_of_ble_eq_true rfl, Nat.le_of_ble_eq_true rfl⟩) ⟨fun a U g mk q => ⟨q.1, q.2.1, va_K.moved (u := U) (U := U.calling g mk a) (Vm.Alike.refl U.vm) q.2.2⟩, va_recv hK hP (ci := 6) (q0 := ktp) rfl e_36, fun U hU hW => ⟨rfl, by rw [hU]; exact hP, va_K.moved hW.alike hK⟩⟩ rfl rfl hl.1 rfl (lv_room (Nat.le_of_ble_eq_true rfl)) dX4_readOne_20 ⟨Nat.le_of_ble_eq_true rfl, Nat.le_of_ble_eq_true rfl⟩) (fun r_44 k_45 => ?_)
    rcases k_45 with rfl | rfl
    · refine lv_if_ne (tgt := 31) hx hb dX4_readOne_23 (by decide) (fun c_46 => absurd (by decide) c_46) (fun c_46 => ?_)
      refine lv_aload_n hx hb dX4_readOne_26 rfl (lv_at hl 1 rfl) ?_
      have hFc := free_all hD hS hA
      refine va_calli (va_runV (As := []) (rest := []) ⟨hx, hb, hml, hown, hts⟩ (r_readTest l D ws_30 ty_31 adK adV fo rd krd tp ktp cd bb tl  H.size (⟨ts_1, te_2, cc_3, ra_4, rb_5, rc_6, rv_7, re_8, ya_9, by omega, by omega, by omega, by omega, e_35, e_36, ⟨k_16, c9_17, t_18, f_38, e_37, u_39⟩, ⟨k_22, c9_23, t_24, f_41, e_40, u_42⟩⟩ : RS ws_30 ty_31 rd krd tp ktp cd bb tl)) (cwV 0 hts gX4_readOne_X4_readTest rfl rfl rfl (by decide +kernel) ⟨Nat.le_of_ble_eq_true rfl, Nat.le_of_ble_eq_true rfl⟩) ⟨fun a U g mk q => by obtain ⟨q0, q1, qP, qK, qD, qS⟩ := q; exact ⟨q0, q1, qP, va_K.moved (u := U) (U := U.calling g mk a) (Vm.Alike.refl U.vm) qK, qD, SZ.same rfl rfl qS⟩, va_recv hK hP (ci := 4) (q0 := krd) rfl e_35, fun U hU hW => ⟨rfl, by rw [hU], by rw [hU]; exact hP, va_K.moved hW.alike hK, hD.weaken (fun _ _ _ _ => trivial), hsz9.go hS hW hU hFc⟩⟩ rfl rfl hl.1 rfl (lv_room (Nat.le_of_ble_eq_true rfl)) dX4_readOne_27 ⟨Nat.le_of_ble_eq_true rfl, Nat.le_of_ble_eq_true rfl⟩) hS (fun q _ h => hFc q h) hFc (fun r_47 u t H1 locs ht hvm w_48 hB hz1 hk1 hS => ?_)
      obtain ⟨ws_49, ty_50, hm_51, ht_53, hP1, hK1, hD1, hx_52⟩ := hB
      rw [ht] at hP1
      have hK := va_K.moved hvm.symm hK1
      have hD := hD1.weaken (fun _ _ _ h => hFc _ h)
      generalize H1 = H at hP1 hS ⊢
      have hP := hP1
      obtain ⟨g_55, e_54, h_56⟩ := hm_51.obj e_35
      obtain ⟨z_57, z_58, z_59, z_60, z_61, z_62, rfl⟩ := smX4 h_56
      obtain ⟨g_64, e_63, h_65⟩ := hm_51.obj e_36
      obtain ⟨z_66, z_67, z_68, z_69, rfl⟩ := smX6 h_65
      obtain ⟨f_71, e_70⟩ := hm_51.arrI e_37
      have u_72 := ht_53 _ _ u_39
      obtain ⟨f_74, e_73⟩ := hm_51.arrI e_40
      have u_75 := ht_53 _ _ u_42
      have hsm := hsm.tr (hm_51.mono (by decide))
      have htx := htx.tr ht_53
      obtain ⟨ts_76, te_77, cc_78, ra_79, rb_80, rc_81, rv_82, re_83, ya_84, h1_85, h2_86, h3_87, h4_88, er_89, et_90, ⟨k_91, c9_92, t_93, f_94, e_95, u_96⟩, ⟨k_97, c9_98, t_99, f_100, e_101, u_102⟩⟩ := id hx_52
      exact W.zret (v := r_47) hx hb hr (by rcases w_48 with h9 | h9 <;> rw [h9] <;> rfl) (fun t ht hW => ⟨⟨r_47, (), rfl, w_48, ws_49, ty_50, hsm, htx, by rw [ht]; exact hP, va_K.moved hW.alike hK, hD, (⟨ts_76, te_77, cc_78, ra_79, rb_80, rc_81, rv_82, re_83, ya_84, by omega, by omega, by omega, by omega, er_89, et_90, ⟨k_91, c9_92, t_93, f_94, e_95, u_96⟩, ⟨k_97, c9_98, t_99, f_100, e_101, u_102⟩⟩ : RS ws_49 ty_50 rd krd tp ktp cd bb tl)⟩, hS.F ht⟩) hS.2.2 dX4_readOne_30
    refine lv_if_ne (tgt := 31) hx hb dX4_readOne_23 (by decide) (fun c_103 => ?_) (fun c_103 => absurd c_103 (by decide))
    refine lv_iload_n hx hb dX4_readOne_31 rfl (lv_at hl 2 rfl) ?_
    refine lv_bipush (v := 6) hx hb dX4_readOne_32 (by decide) ?_
    refine lv_icmp_lt (tgt := 50) hx hb dX4_readOne_34 (by decide) (fun c_104 => ?_) (fun c_104 => absurd (by decide) c_104)
    refine lv_aload_n hx hb dX4_readOne_50 rfl (lv_at hl 1 rfl) ?_
    refine va_get (D := D) (ci := 4) (v := .ref tp) (C := RX4) (T := TX4) (N := 8) hx hb hts hin4 hown hK hP krd e_35 rfl 0 (by decide) (hts (.fieldLink RX4 12 "HoneyHouse$RuleReader" "tape" "LHoneyHouse$Tape;") (List.mem_of_getElem? (i := 1) rfl)) (fun _ h9 => h9) rfl dX4_readOne_51 ?_
    have hFc := free_all hD hS hA
    refine va_callv (va_runV (As := []) (rest := []) ⟨hx, hb, hml, hown, hts⟩ (a_advance l D ws_30 ty_31 tp ktp tl te_2 ya_9 (nI ts_1) bb k_22 c9_23 t_24 f_41 H.size (by omega) (by omega) e_36 e_40 u_42) (cwV 0 hts gX4_readOne_X6_advance rfl rfl rfl (by decide +kernel) ⟨Nat.le_of_ble_eq_true rfl, Nat.le_of_ble_eq_true rfl⟩) ⟨fun a U g mk q => by obtain ⟨q0, q1, qP, qK, qD⟩ := q; exact ⟨q0, q1, qP, va_K.moved (u := U) (U := U.calling g mk a) (Vm.Alike.refl U.vm) qK, qD⟩, va_recv hK hP (ci := 6) (q0 := ktp) rfl e_36, fun U hU hW => ⟨rfl, by rw [hU], by rw [hU]; exact hP, va_K.moved hW.alike hK, hD.weaken (fun _ _ _ _ => trivial)⟩⟩ rfl rfl hl.1 rfl (lv_room (Nat.le_of_ble_eq_true rfl)) dX4_readOne_54 ⟨Nat.le_of_ble_eq_true rfl, Nat.le_of_ble_eq_true rfl⟩) hS (fun q _ h => hFc q h) hFc (fun u t H1 locs ht hvm w_106 hB hz1 hk1 hS => ?_)
    obtain ⟨ws_107, ty_108, hm_109, ht_111, hP1, hK1, hD1, hx_110⟩ := hB
    rw [ht] at hP1
    have hK := va_K.moved hvm.symm hK1
    have hD := hD1.weaken (fun _ _ _ h => hFc _ h)
    generalize H1 = H at hP1 hS ⊢
    have hP := hP1
    have e_112 := hm_109.objK e_35 (by decide)
    obtain ⟨g_114, e_113, h_115⟩ := hm_109.obj e_36
    obtain ⟨z_116, z_117, z_118, z_119, rfl⟩ := smX6 h_115
    obtain ⟨f_121, e_120⟩ := hm_109.arrI e_37
    have u_122 := ht_111 _ _ u_39
    obtain ⟨f_124, e_123⟩ := hm_109.arrI e_40
    have u_125 := ht_111 _ _ u_42
    have hsm := hsm.tr (hm_109.mono (by decide))
    have htx := htx.tr ht_111
    obtain ⟨k_126, s_127, e_128, h_129, h_130, h_131, e_132⟩ := hx_110
    refine lv_iload_n hx hb dX4_readOne_57 rfl (lv_at hl 0 rfl) ?_
    refine lv_if_ne (tgt := 86) hx hb dX4_readOne_58 (by decide) (fun c_133 => absurd (by decide) c_133) (fun c_133 => ?_)
    refine lv_aload_n hx hb dX4_readOne_61 rfl (lv_at hl 1 rfl) ?_
    refine lv_iload_n hx hb dX4_readOne_62 rfl (lv_at hl 2 rfl) ?_
    refine lv_iconst (v := 1) hx hb dX4_readOne_63 (by decide) ?_
    refine lv_iadd hx hb dX4_readOne_64 ?_
    refine tp_i (y := 1) (by decide) ?_
    have hFc := free_all hD hS hA
    refine va_calli (va_runV (As := [.int 1]) (rest := []) ⟨hx, hb, hml, hown, hts⟩ (r_readEither1 l D ws_107 ty_108 adK adV fo rd krd tp ktp cd bb tl  H.size (⟨s_127, e_128, cc_3, ra_4, rb_5, rc_6, rv_7, re_8, nI k_126, by omega, by omega, by omega, by omega, e_112, e_132, ⟨k_16, c9_17, t_18, f_121, e_120, u_122⟩, ⟨k_22, c9_23, t_24, f_124, e_123, u_125⟩⟩ : RS ws_107 ty_108 rd krd tp ktp cd bb tl)) (cwV 1 hts gX4_readOne_X4_readEither rfl rfl rfl (by decide +kernel) ⟨Nat.le_of_ble_eq_true rfl, Nat.le_of_ble_eq_true rfl⟩) ⟨fun a U g mk q => by obtain ⟨q0, q1, qP, qK, qD, qS⟩ := q; exact ⟨q0, q1, qP, va_K.moved (u := U) (U := U.calling g mk a) (Vm.Alike.refl U.vm) qK, qD, SZ.same rfl rfl qS⟩, va_recv hK hP (ci := 4) (q0 := krd) rfl e_112, fun U hU hW => ⟨rfl, by rw [hU], by rw [hU]; exact hP, va_K.moved hW.alike hK, hD.weaken (fun _ _ _ _ => trivial), hsz9.go hS hW hU hFc⟩⟩ rfl rfl hl.1 rfl (lv_room (Nat.le_of_ble_eq_true rfl)) dX4_readOne_65 ⟨Nat.le_of_ble_eq_true rfl, Nat.le_of_ble_eq_true rfl⟩) hS (fun q _ h => hFc q h) hFc (fun r_134 u t H1 locs ht hvm w_135 hB hz1 hk1 hS => ?_)
    obtain ⟨ws_136, ty_137, hm_138, ht_140, hP1, hK1, hD1, hx_139⟩ := hB
    rw [ht] at hP1
    have hK := va_K.moved hvm.symm hK1
    have hD := hD1.weaken (fun _ _ _ h => hFc _ h)
    generalize H1 = H at hP1 hS ⊢
    have hP := hP1
    obtain ⟨g_142, e_141, h_143⟩ := hm_138.obj e_112
    obtain ⟨z_144, z_145, z_146, z_147, z_148, z_149, rfl⟩ := smX4 h_143
    obtain ⟨g_151, e_150, h_152⟩ := hm_138.obj e_132
    obtain ⟨z_153, z_154, z_155, z_156, rfl⟩ := smX6 h_152
    obtain ⟨f_158, e_157⟩ := hm_138.arrI e_120
    have u_159 := ht_140 _ _ u_122
    obtain ⟨f_161, e_160⟩ := hm_138.arrI e_123
    have u_162 := ht_140 _ _ u_125
    have hsm := hsm.tr (hm_138.mono (by decide))
    have htx := htx.tr ht_140
    obtain ⟨ts_163, te_164, cc_165, ra_166, rb_167, rc_168, rv_169, re_170, ya_171, h1_172, h2_173, h3_174, h4_175, er_176, et_177, ⟨k_178, c9_179, t_180, f_181, e_182, u_183⟩, ⟨k_184, c9_185, t_186, f_187, e_188, u_189⟩⟩ := id hx_139
    refine lv_if_eq (tgt := 84) hx hb dX4_readOne_68 (by decide) (fun c_190 => ?_) (fun c_190 => ?_)
    · refine lv_iconst (v := 0) hx hb dX4_readOne_84 (by decide) ?_
      exact W.zret (v := 0) hx hb hr rfl (fun t ht hW => ⟨⟨0, (), rfl, Or.inl rfl, ws_136, ty_137, hsm, htx, by rw [ht]; exact hP, va_K.moved hW.alike hK, hD, (⟨ts_163, te_164, cc_165, ra_166, rb_167, rc_168, rv_169, re_170, ya_171, by omega, by omega, by omega, by omega, er_176, et_177, ⟨k_178, c9_179, t_180, f_181, e_182, u_183⟩, ⟨k_184, c9_185, t_186, f_187, e_188, u_189⟩⟩ : RS ws_136 ty_137 rd krd tp ktp cd bb tl)⟩, hS.F ht⟩) hS.2.2 dX4_readOne_85
    refine lv_aload_n hx hb dX4_readOne_71 rfl (lv_at hl 1 rfl) ?_
    refine lv_bipush (v := 41) hx hb dX4_readOne_72 (by decide) ?_
    have hFc := free_all hD hS hA
    refine va_calli (va_runV (As := [.int 41]) (rest := []) ⟨hx, hb, hml, hown, hts⟩ (r_readByte l D ws_136 ty_137 adK adV fo rd krd tp ktp cd bb tl 41 H.size (⟨ts_163, te_164, cc_165, ra_166, rb_167, rc_168, rv_169, re_170, ya_171, by omega, by omega, by omega, by omega, er_176, et_177, ⟨k_178, c9_179, t_180, f_181, e_182, u_183⟩, ⟨k_184, c9_185, t_186, f_187, e_188, u_189⟩⟩ : RS ws_136 ty_137 rd krd tp ktp cd bb tl)) (cwV 1 hts gX4_readOne_X4_readByte rfl rfl rfl (by decide +kernel) ⟨Nat.le_of_ble_eq_true rfl, Nat.le_of_ble_eq_true rfl⟩) ⟨fun a U g mk q => by obtain ⟨q0, q1, qP, qK, qD, qS⟩ := q; exact ⟨q0, q1, qP, va_K.moved (u := U) (U := U.calling g mk a) (Vm.Alike.refl U.vm) qK, qD, SZ.same rfl rfl qS⟩, va_recv hK hP (ci := 4) (q0 := krd) rfl er_176, fun U hU hW => ⟨rfl, by rw [hU], by rw [hU]; exact hP, va_K.moved hW.alike hK, hD.weaken (fun _ _ _ _ => trivial), hsz9.go hS hW hU hFc⟩⟩ rfl rfl hl.1 rfl (lv_room (Nat.le_of_ble_eq_true rfl)) dX4_readOne_74 ⟨Nat.le_of_ble_eq_true rfl, Nat.le_of_ble_eq_true rfl⟩) hS (fun q _ h => hFc q h) hFc (fun r_191 u t H1 locs ht hvm w_192 hB hz1 hk1 hS => ?_)
    obtain ⟨ws_193, ty_194, hm_195, ht_197, hP1, hK1, hD1, hx_196⟩ := hB
    rw [ht] at hP1
    have hK := va_K.moved hvm.symm hK1
    have hD := hD1.weaken (fun _ _ _ h => hFc _ h)
    generalize H1 = H at hP1 hS ⊢
    have hP := hP1
    obtain ⟨g_199, e_198, h_200⟩ := hm_195.obj er_176
    obtain ⟨z_201, z_202, z_203, z_204, z_205, z_206, rfl⟩ := smX4 h_200
    obtain ⟨g_208, e_207, h_209⟩ := hm_195.obj et_177
    obtain ⟨z_210, z_211, z_212, z_213, rfl⟩ := smX6 h_209
    obtain ⟨f_215, e_214⟩ := hm_195.arrI e_182
    have u_216 := ht_197 _ _ u_183
    obtain ⟨f_218, e_217⟩ := hm_195.arrI e_188
    have u_219 := ht_197 _ _ u_189
    have hsm := hsm.tr (hm_195.mono (by decide))
    have htx := htx.tr ht_197
    obtain ⟨ts_220, te_221, cc_222, ra_223, rb_224, rc_225, rv_226, re_227, ya_228, h1_229, h2_230, h3_231, h4_232, er_233, et_234, ⟨k_235, c9_236, t_237, f_238, e_239, u_240⟩, ⟨k_241, c9_242, t_243, f_244, e_245, u_246⟩⟩ := id hx_196
    rcases w_192 with rfl | rfl
    · refine lv_if_eq (tgt := 84) hx hb dX4_readOne_77 (by decide) (fun c_247 => ?_) (fun c_247 => absurd (by decide) c_247)
      refine lv_iconst (v := 0) hx hb dX4_readOne_84 (by decide) ?_
      exact W.zret (v := 0) hx hb hr rfl (fun t ht hW => ⟨⟨0, (), rfl, Or.inl rfl, ws_193, ty_194, hsm, htx, by rw [ht]; exact hP, va_K.moved hW.alike hK, hD, (⟨ts_220, te_221, cc_222, ra_223, rb_224, rc_225, rv_226, re_227, ya_228, by omega, by omega, by omega, by omega, er_233, et_234, ⟨k_235, c9_236, t_237, f_238, e_239, u_240⟩, ⟨k_241, c9_242, t_243, f_244, e_245, u_246⟩⟩ : RS ws_193 ty_194 rd krd tp ktp cd bb tl)⟩, hS.F ht⟩) hS.2.2 dX4_readOne_85
    refine lv_if_eq (tgt := 84) hx hb dX4_readOne_77 (by decide) (fun c_248 => absurd c_248 (by decide)) (fun c_248 => ?_)
    refine lv_iconst (v := 1) hx hb dX4_readOne_80 (by decide) ?_
    refine lv_goto (tgt := 85) hx hb dX4_readOne_81 (by decide) ?_
    exact W.zret (v := 1) hx hb hr rfl (fun t ht hW => ⟨⟨1, (), rfl, Or.inr rfl, ws_193, ty_194, hsm, htx, by rw [ht]; exact hP, va_K.moved hW.alike hK, hD, (⟨ts_220, te_221, cc_222, ra_223, rb_224, rc_225, rv_226, re_227, ya_228, by omega, by omega, by omega, by omega, er_233, et_234, ⟨k_235, c9_236, t_237, f_238, e_239, u_240⟩, ⟨k_241, c9_242, t_243, f_244, e_245, u_246⟩⟩ : RS ws_193 ty_194 rd krd tp ktp cd bb tl)⟩, hS.F ht⟩) hS.2.2 dX4_readOne_85
  refine lv_istore_n (lv' := [(2, .int 1), (0, .ref rd), (1, .int 0)]) hx hb dX4_readOne_9 rfl hl (by decide) rfl (fun ls hl => ?_)
  refine lv_iload_n hx hb dX4_readOne_10 rfl (lv_at hl 0 rfl) ?_
  refine lv_if_ne (tgt := 31) hx hb dX4_readOne_11 (by decide) (fun c_249 => ?_) (fun c_249 => absurd c_249 (by decide))
  refine lv_iload_n hx hb dX4_readOne_31 rfl (lv_at hl 2 rfl) ?_
  refine lv_bipush (v := 6) hx hb dX4_readOne_32 (by decide) ?_
  refine lv_icmp_lt (tgt := 50) hx hb dX4_readOne_34 (by decide) (fun c_250 => ?_) (fun c_250 => absurd (by decide) c_250)
  refine lv_aload_n hx hb dX4_readOne_50 rfl (lv_at hl 1 rfl) ?_
  refine va_get (D := D) (ci := 4) (v := .ref tp) (C := RX4) (T := TX4) (N := 8) hx hb hts hin4 hown hK hP krd e_35 rfl 0 (by decide) (hts (.fieldLink RX4 12 "HoneyHouse$RuleReader" "tape" "LHoneyHouse$Tape;") (List.mem_of_getElem? (i := 1) rfl)) (fun _ h9 => h9) rfl dX4_readOne_51 ?_
  have hFc := free_all hD hS hA
  refine va_callv (va_runV (As := []) (rest := []) ⟨hx, hb, hml, hown, hts⟩ (a_advance l D ws_30 ty_31 tp ktp tl te_2 ya_9 (nI ts_1) bb k_22 c9_23 t_24 f_41 H.size (by omega) (by omega) e_36 e_40 u_42) (cwV 0 hts gX4_readOne_X6_advance rfl rfl rfl (by decide +kernel) ⟨Nat.le_of_ble_eq_true rfl, Nat.le_of_ble_eq_true rfl⟩) ⟨fun a U g mk q => by obtain ⟨q0, q1, qP, qK, qD⟩ := q; exact ⟨q0, q1, qP, va_K.moved (u := U) (U := U.calling g mk a) (Vm.Alike.refl U.vm) qK, qD⟩, va_recv hK hP (ci := 6) (q0 := ktp) rfl e_36, fun U hU hW => ⟨rfl, by rw [hU], by rw [hU]; exact hP, va_K.moved hW.alike hK, hD.weaken (fun _ _ _ _ => trivial)⟩⟩ rfl rfl hl.1 rfl (lv_room (Nat.le_of_ble_eq_true rfl)) dX4_readOne_54 ⟨Nat.le_of_ble_eq_true rfl, Nat.le_of_ble_eq_true rfl⟩) hS (fun q _ h => hFc q h) hFc (fun u t H1 locs ht hvm w_252 hB hz1 hk1 hS => ?_)
  obtain ⟨ws_253, ty_254, hm_255, ht_257, hP1, hK1, hD1, hx_256⟩ := hB
  rw [ht] at hP1
  have hK := va_K.moved hvm.symm hK1
  have hD := hD1.weaken (fun _ _ _ h => hFc _ h)
  generalize H1 = H at hP1 hS ⊢
  have hP := hP1
  have e_258 := hm_255.objK e_35 (by decide)
  obtain ⟨g_260, e_259, h_261⟩ := hm_255.obj e_36
  obtain ⟨z_262, z_263, z_264, z_265, rfl⟩ := smX6 h_261
  obtain ⟨f_267, e_266⟩ := hm_255.arrI e_37
  have u_268 := ht_257 _ _ u_39
  obtain ⟨f_270, e_269⟩ := hm_255.arrI e_40
  have u_271 := ht_257 _ _ u_42
  have hsm := hsm.tr (hm_255.mono (by decide))
  have htx := htx.tr ht_257
  obtain ⟨k_272, s_273, e_274, h_275, h_276, h_277, e_278⟩ := hx_256
  refine lv_iload_n hx hb dX4_readOne_57 rfl (lv_at hl 0 rfl) ?_
  refine lv_if_ne (tgt := 86) hx hb dX4_readOne_58 (by decide) (fun c_279 => ?_) (fun c_279 => absurd c_279 (by decide))
  refine lv_aload_n hx hb dX4_readOne_86 rfl (lv_at hl 1 rfl) ?_
  refine lv_iload_n hx hb dX4_readOne_87 rfl (lv_at hl 2 rfl) ?_
  refine lv_iconst (v := 1) hx hb dX4_readOne_88 (by decide) ?_
  refine lv_iadd hx hb dX4_readOne_89 ?_
  refine tp_i (y := 1) (by decide) ?_
  have hFc := free_all hD hS hA
  refine va_calli (va_runV (As := [.int 1]) (rest := []) ⟨hx, hb, hml, hown, hts⟩ (r_readOne1 l D ws_253 ty_254 adK adV fo rd krd tp ktp cd bb tl  H.size (⟨s_273, e_274, cc_3, ra_4, rb_5, rc_6, rv_7, re_8, nI k_272, by omega, by omega, by omega, by omega, e_258, e_278, ⟨k_16, c9_17, t_18, f_267, e_266, u_268⟩, ⟨k_22, c9_23, t_24, f_270, e_269, u_271⟩⟩ : RS ws_253 ty_254 rd krd tp ktp cd bb tl)) (cwV 1 hts gX4_readOne_X4_readOne rfl rfl rfl (by decide +kernel) ⟨Nat.le_of_ble_eq_true rfl, Nat.le_of_ble_eq_true rfl⟩) ⟨fun a U g mk q => by obtain ⟨q0, q1, qP, qK, qD, qS⟩ := q; exact ⟨q0, q1, qP, va_K.moved (u := U) (U := U.calling g mk a) (Vm.Alike.refl U.vm) qK, qD, SZ.same rfl rfl qS⟩, va_recv hK hP (ci := 4) (q0 := krd) rfl e_258, fun U hU hW => ⟨rfl, by rw [hU], by rw [hU]; exact hP, va_K.moved hW.alike hK, hD.weaken (fun _ _ _ _ => trivial), hsz9.go hS hW hU hFc⟩⟩ rfl rfl hl.1 rfl (lv_room (Nat.le_of_ble_eq_true rfl)) dX4_readOne_90 ⟨Nat.le_of_ble_eq_true rfl, Nat.le_of_ble_eq_true rfl⟩) hS (fun q _ h => hFc q h) hFc (fun r_280 u t H1 locs ht hvm w_281 hB hz1 hk1 hS => ?_)
  obtain ⟨ws_282, ty_283, hm_284, ht_286, hP1, hK1, hD1, hx_285⟩ := hB
  rw [ht] at hP1
  have hK := va_K.moved hvm.symm hK1
  have hD := hD1.weaken (fun _ _ _ h => hFc _ h)
  generalize H1 = H at hP1 hS ⊢
  have hP := hP1
  obtain ⟨g_288, e_287, h_289⟩ := hm_284.obj e_258
  obtain ⟨z_290, z_291, z_292, z_293, z_294, z_295, rfl⟩ := smX4 h_289
  obtain ⟨g_297, e_296, h_298⟩ := hm_284.obj e_278
  obtain ⟨z_299, z_300, z_301, z_302, rfl⟩ := smX6 h_298
  obtain ⟨f_304, e_303⟩ := hm_284.arrI e_266
  have u_305 := ht_286 _ _ u_268
  obtain ⟨f_307, e_306⟩ := hm_284.arrI e_269
  have u_308 := ht_286 _ _ u_271
  have hsm := hsm.tr (hm_284.mono (by decide))
  have htx := htx.tr ht_286
  obtain ⟨ts_309, te_310, cc_311, ra_312, rb_313, rc_314, rv_315, re_316, ya_317, h1_318, h2_319, h3_320, h4_321, er_322, et_323, ⟨k_324, c9_325, t_326, f_327, e_328, u_329⟩, ⟨k_330, c9_331, t_332, f_333, e_334, u_335⟩⟩ := id hx_285
  refine lv_istore_n (lv' := [(3, .int r_280), (2, .int 1), (0, .ref rd), (1, .int 0)]) hx hb dX4_readOne_93 rfl hl (by decide) rfl (fun ls hl => ?_)
  refine lv_aload_n hx hb dX4_readOne_94 rfl (lv_at hl 2 rfl) ?_
  refine lv_iconst (v := (-1)) hx hb dX4_readOne_95 (by decide) ?_
  have hFc := free_all hD hS hA
  refine va_callv (va_runV (As := [.int (-1)]) (rest := []) ⟨hx, hb, hml, hown, hts⟩ (r_addCode l D ws_282 ty_283 adK adV fo rd krd tp ktp cd bb tl (-1) H.size (⟨ts_309, te_310, cc_311, ra_312, rb_313, rc_314, rv_315, re_316, ya_317, by omega, by omega, by omega, by omega, er_322, et_323, ⟨k_324, c9_325, t_326, f_327, e_328, u_329⟩, ⟨k_330, c9_331, t_332, f_333, e_334, u_335⟩⟩ : RS ws_282 ty_283 rd krd tp ktp cd bb tl)) (cwV 1 hts gX4_readOne_X4_addCode rfl rfl rfl (by decide +kernel) ⟨Nat.le_of_ble_eq_true rfl, Nat.le_of_ble_eq_true rfl⟩) ⟨fun a U g mk q => by obtain ⟨q0, q1, qP, qK, qD, qS⟩ := q; exact ⟨q0, q1, qP, va_K.moved (u := U) (U := U.calling g mk a) (Vm.Alike.refl U.vm) qK, qD, SZ.same rfl rfl qS⟩, va_recv hK hP (ci := 4) (q0 := krd) rfl er_322, fun U hU hW => ⟨rfl, by rw [hU], by rw [hU]; exact hP, va_K.moved hW.alike hK, hD.weaken (fun _ _ _ _ => trivial), hsz9.go hS hW hU hFc⟩⟩ rfl rfl hl.1 rfl (lv_room (Nat.le_of_ble_eq_true rfl)) dX4_readOne_96 ⟨Nat.le_of_ble_eq_true rfl, Nat.le_of_ble_eq_true rfl⟩) hS (fun q _ h => hFc q h) hFc (fun u t H1 locs ht hvm w_337 hB hz1 hk1 hS => ?_)
  obtain ⟨ws_338, ty_339, hm_340, ht_342, hP1, hK1, hD1, hx_341⟩ := hB
  rw [ht] at hP1
  have hK := va_K.moved hvm.symm hK1
  have hD := hD1.weaken (fun _ _ _ h => hFc _ h)
  generalize H1 = H at hP1 hS ⊢
  have hP := hP1
  obtain ⟨g_344, e_343, h_345⟩ := hm_340.obj er_322
  obtain ⟨z_346, z_347, z_348, z_349, z_350, z_351, rfl⟩ := smX4 h_345
  obtain ⟨g_353, e_352, h_354⟩ := hm_340.obj et_323
  obtain ⟨z_355, z_356, z_357, z_358, rfl⟩ := smX6 h_354
  obtain ⟨f_360, e_359⟩ := hm_340.arrI e_328
  have u_361 := ht_342 _ _ u_329
  obtain ⟨f_363, e_362⟩ := hm_340.arrI e_334
  have u_364 := ht_342 _ _ u_335
  have hsm := hsm.tr (hm_340.mono (by decide))
  have htx := htx.tr ht_342
  obtain ⟨ts_365, te_366, cc_367, ra_368, rb_369, rc_370, rv_371, re_372, ya_373, h1_374, h2_375, h3_376, h4_377, er_378, et_379, ⟨k_380, c9_381, t_382, f_383, e_384, u_385⟩, ⟨k_386, c9_387, t_388, f_389, e_390, u_391⟩⟩ := id hx_341
  refine lv_iload_n hx hb dX4_readOne_99 rfl (lv_at hl 0 rfl) ?_
  exact W.zret (v := r_280) hx hb hr (by rcases w_281 with h9 | h9 <;> rw [h9] <;> rfl) (fun t ht hW => ⟨⟨r_280, (), rfl, w_281, ws_338, ty_339, hsm, htx, by rw [ht]; exact hP, va_K.moved hW.alike hK, hD, (⟨ts_365, te_366, cc_367, ra_368, rb_369, rc_370, rv_371, re_372, ya_373, by omega, by omega, by omega, by omega, er_378, et_379, ⟨k_380, c9_381, t_382, f_383, e_384, u_385⟩, ⟨k_386, c9_387, t_388, f_389, e_390, u_391⟩⟩ : RS ws_338 ty_339 rd krd tp ktp cd bb tl)⟩, hS.F ht⟩) hS.2.2 dX4_readOne_100
set_option maxHeartbeats 4000000 in
set_option maxRecDepth 100000 in
theorem r_readEither0 (l : Launch) (D : va_G) (ws : va_W) (tys : List (ClassId × FieldType)) (adK adV : Nat → Nat) (fo : Option Nat) (rd krd tp ktp cd bb tl : Nat)  (sz : Nat) (R0 : RS ws tys rd krd tp ktp cd bb tl)  : Met l yX4_readEither wsX4_readEither ({ frames := 20, cells := 0, slots := 0, locals := 460 }) (va_Pc [.ref rd, .int 0] (fun U => U.heap.size = sz ∧ va_P D vwCl ws U.heap ∧ va_K D vwCl tys U ∧ va_D (fun _ => True) ws ∧ SZ adK adV fo (va_A ws sz) U U.heap)) (va_Qi (fun (r : Int32) (_ : Unit) => r = 0 ∨ r = 1) (fun (_ : Unit) (t : State) => ∃ (ws' : va_W) (tys' : List (ClassId × FieldType)), sm [4, 6] ws ws' ∧ tyx tys tys' ∧ va_P D vwCl ws' t.heap ∧ va_K D vwCl tys' t ∧ va_D (va_A ws sz) ws' ∧ RS ws' tys' rd krd tp ktp cd bb tl) (va_A ws sz)) 0 0 (va_A ws sz) := by
  refine Met.ofW (cc := cX4_readEither) (maxL := 6) (ret := (some .boolean)) (by decide) rfl ?_
  intro p e s m args below meth c s₁ B hml hv
  obtain ⟨rfl, hsz, hP, hK, hD0, hsz9⟩ := hv
  have hx := B.exec
  have hb := B.bytes
  have hr := B.returns
  have hts := atoms_spec (ws := wsX4_readEither) B.pre
  have hown : s.vm.findClass RX4 = some m.cls := findClass_of_methodNamed B.named
  have hlocks := B.notSynchronized
  subst hsz
  have hD := hD0.self (sz := s.heap.size)
  generalize hAe : va_A ws s.heap.size = A at hD hsz9 ⊢
  have hA : ∀ q : Nat, s.heap.size ≤ q → A q := fun q h => by rw [← hAe]; exact Or.inr h
  have hS : va_S A s.heap s.heap [] := va_S.rf
  have hsm : sm [4, 6] ws ws := sm.rf ws
  have htx : tyx tys tys := tyx.rf tys
  have hin4 : ∀ w ∈ u_ws RX4 TX4 8, w ∈ wsX4_readEither := (fun _ h9 => List.mem_cons_of_mem _ (List.mem_append_left _ ((List.mem_append_right _ h9))))
  have hl := lv_entry ([.ref rd, .int 0]) (n := 6) (Nat.le_of_ble_eq_true rfl)
  rw [lg_entry_eq]
  generalize (lg_sl ([.ref rd, .int 0]) ++ List.replicate (6 - (lg_sl ([.ref rd, .int 0])).length) Slot.unset).toArray = ls at hl ⊢
  have hl : lv_has ls 6 [(0, .ref rd), (1, .int 0)] := hl
  obtain ⟨ts_1, te_2, cc_3, ra_4, rb_5, rc_6, rv_7, re_8, ya_9, h1_10, h2_11, h3_12, h4_13, er_14, et_15, ⟨k_16, c9_17, t_18, f_19, e_20, u_21⟩, ⟨k_22, c9_23, t_24, f_25, e_26, u_27⟩⟩ := id R0
  refine lv_aload_n hx hb dX4_readEither_0 rfl (lv_at hl 0 rfl) ?_
  refine lv_iload_n hx hb dX4_readEither_1 rfl (lv_at hl 1 rfl) ?_
  have hFc := free_all hD hS hA
  refine va_calli (va_runV (As := [.int 0]) (rest := []) ⟨hx, hb, hml, hown, hts⟩ (r_readOne0 l D ws tys adK adV fo rd krd tp ktp cd bb tl  s.heap.size (⟨ts_1, te_2, cc_3, ra_4, rb_5, rc_6, rv_7, re_8, ya_9, by omega, by omega, by omega, by omega, er_14, et_15, ⟨k_16, c9_17, t_18, f_19, e_20, u_21⟩, ⟨k_22, c9_23, t_24, f_25, e_26, u_27⟩⟩ : RS ws tys rd krd tp ktp cd bb tl)) (cwV 1 hts gX4_readEither_X4_readOne rfl rfl rfl (by decide +kernel) ⟨Nat.le_of_ble_eq_true rfl, Nat.le_of_ble_eq_true rfl⟩) ⟨fun a U g mk q => by obtain ⟨q0, q1, qP, qK, qD, qS⟩ := q; exact ⟨q0, q1, qP, va_K.moved (u := U) (U := U.calling g mk a) (Vm.Alike.refl U.vm) qK, qD, SZ.same rfl rfl qS⟩, va_recv hK hP (ci := 4) (q0 := krd) rfl er_14, fun U hU hW => ⟨rfl, by rw [hU], by rw [hU]; exact hP, va_K.moved hW.alike hK, hD.weaken (fun _ _ _ _ => trivial), hsz9.go hS hW hU hFc⟩⟩ rfl rfl hl.1 rfl (lv_room (Nat.le_of_ble_eq_true rfl)) dX4_readEither_2 ⟨Nat.le_of_ble_eq_true rfl, Nat.le_of_ble_eq_true rfl⟩) hS (fun q _ h => hFc q h) hFc (fun r_28 u t H1 locs ht hvm w_29 hB hz1 hk1 hS => ?_)
  obtain ⟨ws_30, ty_31, hm_32, ht_34, hP1, hK1, hD1, hx_33⟩ := hB
  rw [ht] at hP1
  have hK := va_K.moved hvm.symm hK1
  have hD := hD1.weaken (fun _ _ _ h => hFc _ h)
  generalize H1 = H at hP1 hS ⊢
  have hP := hP1
  obtain ⟨g_36, e_35, h_37⟩ := hm_32.obj er_14
  obtain ⟨z_38, z_39, z_40, z_41, z_42, z_43, rfl⟩ := smX4 h_37
  obtain ⟨g_45, e_44, h_46⟩ := hm_32.obj et_15
  obtain ⟨z_47, z_48, z_49, z_50, rfl⟩ := smX6 h_46
  obtain ⟨f_52, e_51⟩ := hm_32.arrI e_20
  have u_53 := ht_34 _ _ u_21
  obtain ⟨f_55, e_54⟩ := hm_32.arrI e_26
  have u_56 := ht_34 _ _ u_27
  have hsm := hsm.tr (hm_32.mono (by decide))
  have htx := htx.tr ht_34
  obtain ⟨ts_57, te_58, cc_59, ra_60, rb_61, rc_62, rv_63, re_64, ya_65, h1_66, h2_67, h3_68, h4_69, er_70, et_71, ⟨k_72, c9_73, t_74, f_75, e_76, u_77⟩, ⟨k_78, c9_79, t_80, f_81, e_82, u_83⟩⟩ := id hx_33
  refine lv_istore_n (lv' := [(2, .int r_28), (0, .ref rd), (1, .int 0)]) hx hb dX4_readEither_5 rfl hl (by decide) rfl (fun ls hl => ?_)
  refine lv_iconst (v := 0) hx hb dX4_readEither_6 (by decide) ?_
  refine lv_istore_n (lv' := [(3, .int 0), (2, .int r_28), (0, .ref rd), (1, .int 0)]) hx hb dX4_readEither_7 rfl hl (by decide) rfl (fun ls hl => ?_)
  refine lv_iconst (v := 0) hx hb dX4_readEither_8 (by decide) ?_
  refine lv_istore (lv' := [(4, .int 0), (3, .int 0), (2, .int r_28), (0, .ref rd), (1, .int 0)]) hx hb dX4_readEither_9 hl (by decide) rfl (fun ls hl => ?_)
  refine lp_V (nL := 6) (σ := Nat × Int32 × Int32) (lv := fun x9 => [(4, .int (nI x9.1)), (2, .int x9.2.1), (3, .int x9.2.2), (1, .int 0), (0, .ref rd)]) (μ := fun x9 => 400 - x9.1) (J := fun x9 ws9 => sm [4, 6] ws_30 ws9 ∧ (RS ws9 ty_31 rd krd tp ktp cd bb tl) ∧ (x9.1 ≤ 400) ∧ (x9.2.1 = 0 ∨ x9.2.1 = 1) ∧ (x9.2.2 = 0 ∨ x9.2.2 = 1)) (fun x9 ws_91 H locs ls hj hP hD hS hl ih_84 => ?_) (0, r_28, 0) ws_30 _ _ ls ⟨sm.rf _, (⟨ts_57, te_58, cc_59, ra_60, rb_61, rc_62, rv_63, re_64, ya_65, by omega, by omega, by omega, by omega, er_70, et_71, ⟨k_72, c9_73, t_74, f_75, e_76, u_77⟩, ⟨k_78, c9_79, t_80, f_81, e_82, u_83⟩⟩ : RS ws_30 ty_31 rd krd tp ktp cd bb tl), (show 0 ≤ 400 from by omega), (show r_28 = 0 ∨ r_28 = 1 from w_29), (show 0 = 0 ∨ 0 = 1 from Or.inl rfl)⟩ hP hD hS (lv_sub hl [0, 2, 1, 4, 3] rfl)
  obtain ⟨i_85, x_86, y_87⟩ := x9
  have hj : sm [4, 6] ws_30 ws_91 ∧ (RS ws_91 ty_31 rd krd tp ktp cd bb tl) ∧ (i_85 ≤ 400) ∧ (x_86 = 0 ∨ x_86 = 1) ∧ (y_87 = 0 ∨ y_87 = 1) := hj
  obtain ⟨hm_92, hR_94, hi_88, hbx_89, hby_90⟩ := hj
  obtain ⟨g_96, e_95, h_97⟩ := hm_92.obj er_70
  obtain ⟨z_98, z_99, z_100, z_101, z_102, z_103, rfl⟩ := smX4 h_97
  obtain ⟨g_105, e_104, h_106⟩ := hm_92.obj et_71
  obtain ⟨z_107, z_108, z_109, z_110, rfl⟩ := smX6 h_106
  obtain ⟨f_112, e_111⟩ := hm_92.arrI e_76
  obtain ⟨f_114, e_113⟩ := hm_92.arrI e_82
  have hsm := hsm.tr (hm_92.mono (by decide))
  obtain ⟨ts_115, te_116, cc_117, ra_118, rb_119, rc_120, rv_121, re_122, ya_123, h1_124, h2_125, h3_126, h4_127, er_128, et_129, ⟨k_130, c9_131, t_132, f_133, e_134, u_135⟩, ⟨k_136, c9_137, t_138, f_139, e_140, u_141⟩⟩ := id hR_94
  have hlp_93 := hm_92
  have hl : lv_has ls 6 [(4, .int (nI i_85)), (2, .int x_86), (3, .int y_87), (1, .int 0), (0, .ref rd)] := hl
  refine lv_iload hx hb dX4_readEither_11 (lv_at hl 0 rfl) ?_
  refine lv_sipush (v := 400) hx hb dX4_readEither_13 (by decide) ?_
  refine lv_icmp_ge (tgt := 101) hx hb dX4_readEither_16 (by decide) (fun c_142 => ?_) (fun c_142 => ?_)
  · have d_143 := n_le (a := 400) (b := i_85) (by omega) (by omega) c_142
    refine lv_iload_n hx hb dX4_readEither_101 rfl (lv_at hl 2 rfl) ?_
    refine lv_if_eq (tgt := 111) hx hb dX4_readEither_102 (by decide) (fun c_144 => ?_) (fun c_144 => ?_)
    · refine lv_iload_n hx hb dX4_readEither_111 rfl (lv_at hl 1 rfl) ?_
      exact W.zret (v := x_86) hx hb hr (by rcases hbx_89 with h9 | h9 <;> rw [h9] <;> rfl) (fun t ht hW => ⟨⟨x_86, (), rfl, hbx_89, ws_91, ty_31, hsm, htx, by rw [ht]; exact hP, va_K.moved hW.alike hK, hD, (⟨ts_115, te_116, cc_117, ra_118, rb_119, rc_120, rv_121, re_122, ya_123, by omega, by omega, by omega, by omega, er_128, et_129, ⟨k_130, c9_131, t_132, f_133, e_134, u_135⟩, ⟨k_136, c9_137, t_138, f_139, e_140, u_141⟩⟩ : RS ws_91 ty_31 rd krd tp ktp cd bb tl)⟩, hS.F ht⟩) hS.2.2 dX4_readEither_112
    refine lv_aload_n hx hb dX4_readEither_105 rfl (lv_at hl 4 rfl) ?_
    refine lv_bipush (v := (-3)) hx hb dX4_readEither_106 (by decide) ?_
    have hFc := free_all hD hS hA
    refine va_callv (va_runV (As := [.int (-3)]) (rest := []) ⟨hx, hb, hml, hown, hts⟩ (r_addCode l D ws_91 ty_31 adK adV fo rd krd tp ktp cd bb tl (-3) H.size (⟨ts_115, te_116, cc_117, ra_118, rb_119, rc_120, rv_121, re_122, ya_123, by omega, by omega, by omega, by omega, er_128, et_129, ⟨k_130, c9_131, t_132, f_133, e_134, u_135⟩, ⟨k_136, c9_137, t_138, f_139, e_140, u_141⟩⟩ : RS ws_91 ty_31 rd krd tp ktp cd bb tl)) (cwV 1 hts gX4_readEither_X4_addCode rfl rfl rfl (by decide +kernel) ⟨Nat.le_of_ble_eq_true rfl, Nat.le_of_ble_eq_true rfl⟩) ⟨fun a U g mk q => by obtain ⟨q0, q1, qP, qK, qD, qS⟩ := q; exact ⟨q0, q1, qP, va_K.moved (u := U) (U := U.calling g mk a) (Vm.Alike.refl U.vm) qK, qD, SZ.same rfl rfl qS⟩, va_recv hK hP (ci := 4) (q0 := krd) rfl er_128, fun U hU hW => ⟨rfl, by rw [hU], by rw [hU]; exact hP, va_K.moved hW.alike hK, hD.weaken (fun _ _ _ _ => trivial), hsz9.go hS hW hU hFc⟩⟩ rfl rfl hl.1 rfl (lv_room (Nat.le_of_ble_eq_true rfl)) dX4_readEither_108 ⟨Nat.le_of_ble_eq_true rfl, Nat.le_of_ble_eq_true rfl⟩) hS (fun q _ h => hFc q h) hFc (fun u t H1 locs ht hvm w_146 hB hz1 hk1 hS => ?_)
    obtain ⟨ws_147, ty_148, hm_149, ht_151, hP1, hK1, hD1, hx_150⟩ := hB
    rw [ht] at hP1
    have hK := va_K.moved hvm.symm hK1
    have hD := hD1.weaken (fun _ _ _ h => hFc _ h)
    generalize H1 = H at hP1 hS ⊢
    have hP := hP1
    obtain ⟨g_153, e_152, h_154⟩ := hm_149.obj er_128
    obtain ⟨z_155, z_156, z_157, z_158, z_159, z_160, rfl⟩ := smX4 h_154
    obtain ⟨g_162, e_161, h_163⟩ := hm_149.obj et_129
    obtain ⟨z_164, z_165, z_166, z_167, rfl⟩ := smX6 h_163
    obtain ⟨f_169, e_168⟩ := hm_149.arrI e_134
    have u_170 := ht_151 _ _ u_135
    obtain ⟨f_172, e_171⟩ := hm_149.arrI e_140
    have u_173 := ht_151 _ _ u_141
    have hsm := hsm.tr (hm_149.mono (by decide))
    have hlp_93 := hlp_93.tr (hm_149.mono (by decide))
    have htx := htx.tr ht_151
    obtain ⟨ts_174, te_175, cc_176, ra_177, rb_178, rc_179, rv_180, re_181, ya_182, h1_183, h2_184, h3_185, h4_186, er_187, et_188, ⟨k_189, c9_190, t_191, f_192, e_193, u_194⟩, ⟨k_195, c9_196, t_197, f_198, e_199, u_200⟩⟩ := id hx_150
    refine lv_iload_n hx hb dX4_readEither_111 rfl (lv_at hl 1 rfl) ?_
    exact W.zret (v := x_86) hx hb hr (by rcases hbx_89 with h9 | h9 <;> rw [h9] <;> rfl) (fun t ht hW => ⟨⟨x_86, (), rfl, hbx_89, ws_147, ty_148, hsm, htx, by rw [ht]; exact hP, va_K.moved hW.alike hK, hD, (⟨ts_174, te_175, cc_176, ra_177, rb_178, rc_179, rv_180, re_181, ya_182, by omega, by omega, by omega, by omega, er_187, et_188, ⟨k_189, c9_190, t_191, f_192, e_193, u_194⟩, ⟨k_195, c9_196, t_197, f_198, e_199, u_200⟩⟩ : RS ws_147 ty_148 rd krd tp ktp cd bb tl)⟩, hS.F ht⟩) hS.2.2 dX4_readEither_112
  have d_201 := n_nle (a := 400) (b := i_85) (by omega) (by omega) c_142
  refine lv_iload_n hx hb dX4_readEither_19 rfl (lv_at hl 1 rfl) ?_
  refine lv_if_eq (tgt := 101) hx hb dX4_readEither_20 (by decide) (fun c_202 => ?_) (fun c_202 => ?_)
  · refine lv_iload_n hx hb dX4_readEither_101 rfl (lv_at hl 2 rfl) ?_
    refine lv_if_eq (tgt := 111) hx hb dX4_readEither_102 (by decide) (fun c_203 => ?_) (fun c_203 => ?_)
    · refine lv_iload_n hx hb dX4_readEither_111 rfl (lv_at hl 1 rfl) ?_
      exact W.zret (v := x_86) hx hb hr (by rcases hbx_89 with h9 | h9 <;> rw [h9] <;> rfl) (fun t ht hW => ⟨⟨x_86, (), rfl, hbx_89, ws_91, ty_31, hsm, htx, by rw [ht]; exact hP, va_K.moved hW.alike hK, hD, (⟨ts_115, te_116, cc_117, ra_118, rb_119, rc_120, rv_121, re_122, ya_123, by omega, by omega, by omega, by omega, er_128, et_129, ⟨k_130, c9_131, t_132, f_133, e_134, u_135⟩, ⟨k_136, c9_137, t_138, f_139, e_140, u_141⟩⟩ : RS ws_91 ty_31 rd krd tp ktp cd bb tl)⟩, hS.F ht⟩) hS.2.2 dX4_readEither_112
    refine lv_aload_n hx hb dX4_readEither_105 rfl (lv_at hl 4 rfl) ?_
    refine lv_bipush (v := (-3)) hx hb dX4_readEither_106 (by decide) ?_
    have hFc := free_all hD hS hA
    refine va_callv (va_runV (As := [.int (-3)]) (rest := []) ⟨hx, hb, hml, hown, hts⟩ (r_addCode l D ws_91 ty_31 adK adV fo rd krd tp ktp cd bb tl (-3) H.size (⟨ts_115, te_116, cc_117, ra_118, rb_119, rc_120, rv_121, re_122, ya_123, by omega, by omega, by omega, by omega, er_128, et_129, ⟨k_130, c9_131, t_132, f_133, e_134, u_135⟩, ⟨k_136, c9_137, t_138, f_139, e_140, u_141⟩⟩ : RS ws_91 ty_31 rd krd tp ktp cd bb tl)) (cwV 1 hts gX4_readEither_X4_addCode rfl rfl rfl (by decide +kernel) ⟨Nat.le_of_ble_eq_true rfl, Nat.le_of_ble_eq_true rfl⟩) ⟨fun a U g mk q => by obtain ⟨q0, q1, qP, qK, qD, qS⟩ := q; exact ⟨q0, q1, qP, va_K.moved (u := U) (U := U.calling g mk a) (Vm.Alike.refl U.vm) qK, qD, SZ.same rfl rfl qS⟩, va_recv hK hP (ci := 4) (q0 := krd) rfl er_128, fun U hU hW => ⟨rfl, by rw [hU], by rw [hU]; exact hP, va_K.moved hW.alike hK, hD.weaken (fun _ _ _ _ => trivial), hsz9.go hS hW hU hFc⟩⟩ rfl rfl hl.1 rfl (lv_room (Nat.le_of_ble_eq_true rfl)) dX4_readEither_108 ⟨Nat.le_of_ble_eq_true rfl, Nat.le_of_ble_eq_true rfl⟩) hS (fun q _ h => hFc q h) hFc (fun u t H1 locs ht hvm w_205 hB hz1 hk1 hS => ?_)
    obtain ⟨ws_206, ty_207, hm_208, ht_210, hP1, hK1, hD1, hx_209⟩ := hB
    rw [ht] at hP1
    have hK := va_K.moved hvm.symm hK1
    have hD := hD1.weaken (fun _ _ _ h => hFc _ h)
    generalize H1 = H at hP1 hS ⊢
    have hP := hP1
    obtain ⟨g_212, e_211, h_213⟩ := hm_208.obj er_128
    obtain ⟨z_214, z_215, z_216, z_217, z_218, z_219, rfl⟩ := smX4 h_213
    obtain ⟨g_221, e_220, h_222⟩ := hm_208.obj et_129
    obtain ⟨z_223, z_224, z_225, z_226, rfl⟩ := smX6 h_222
    obtain ⟨f_228, e_227⟩ := hm_208.arrI e_134
    have u_229 := ht_210 _ _ u_135
    obtain ⟨f_231, e_230⟩ := hm_208.arrI e_140
    have u_232 := ht_210 _ _ u_141
    have hsm := hsm.tr (hm_208.mono (by decide))
    have hlp_93 := hlp_93.tr (hm_208.mono (by decide))
    have htx := htx.tr ht_210
    obtain ⟨ts_233, te_234, cc_235, ra_236, rb_237, rc_238, rv_239, re_240, ya_241, h1_242, h2_243, h3_244, h4_245, er_246, et_247, ⟨k_248, c9_249, t_250, f_251, e_252, u_253⟩, ⟨k_254, c9_255, t_256, f_257, e_258, u_259⟩⟩ := id hx_209
    refine lv_iload_n hx hb dX4_readEither_111 rfl (lv_at hl 1 rfl) ?_
    exact W.zret (v := x_86) hx hb hr (by rcases hbx_89 with h9 | h9 <;> rw [h9] <;> rfl) (fun t ht hW => ⟨⟨x_86, (), rfl, hbx_89, ws_206, ty_207, hsm, htx, by rw [ht]; exact hP, va_K.moved hW.alike hK, hD, (⟨ts_233, te_234, cc_235, ra_236, rb_237, rc_238, rv_239, re_240, ya_241, by omega, by omega, by omega, by omega, er_246, et_247, ⟨k_248, c9_249, t_250, f_251, e_252, u_253⟩, ⟨k_254, c9_255, t_256, f_257, e_258, u_259⟩⟩ : RS ws_206 ty_207 rd krd tp ktp cd bb tl)⟩, hS.F ht⟩) hS.2.2 dX4_readEither_112
  refine lv_aload_n hx hb dX4_readEither_23 rfl (lv_at hl 4 rfl) ?_
  have hFc := free_all hD hS hA
  refine va_calli (va_runV (As := []) (rest := []) ⟨hx, hb, hml, hown, hts⟩ (r_isAndOr l D ws_91 ty_31 adK adV fo rd krd tp ktp cd bb tl  H.size (⟨ts_115, te_116, cc_117, ra_118, rb_119, rc_120, rv_121, re_122, ya_123, by omega, by omega, by omega, by omega, er_128, et_129, ⟨k_130, c9_131, t_132, f_133, e_134, u_135⟩, ⟨k_136, c9_137, t_138, f_139, e_140, u_141⟩⟩ : RS ws_91 ty_31 rd krd tp ktp cd bb tl)) (cwV 0 hts gX4_readEither_X4_isAndOr rfl rfl rfl (by decide +kernel) ⟨Nat.le_of_ble_eq_true rfl, Nat.le_of_ble_eq_true rfl⟩) ⟨fun a U g mk q => by obtain ⟨q0, q1, qP, qK, qD, qS⟩ := q; exact ⟨q0, q1, qP, va_K.moved (u := U) (U := U.calling g mk a) (Vm.Alike.refl U.vm) qK, qD, SZ.same rfl rfl qS⟩, va_recv hK hP (ci := 4) (q0 := krd) rfl er_128, fun U hU hW => ⟨rfl, by rw [hU], by rw [hU]; exact hP, va_K.moved hW.alike hK, hD.weaken (fun _ _ _ _ => trivial), hsz9.go hS hW hU hFc⟩⟩ rfl rfl hl.1 rfl (lv_room (Nat.le_of_ble_eq_true rfl)) dX4_readEither_24 ⟨Nat.le_of_ble_eq_true rfl, Nat.le_of_ble_eq_true rfl⟩) hS (fun q _ h => hFc q h) hFc (fun r_260 u t H1 locs ht hvm w_261 hB hz1 hk1 hS => ?_)
  obtain ⟨ws_262, ty_263, hm_264, ht_266, hP1, hK1, hD1, hx_265⟩ := hB
  rw [ht] at hP1
  have hK := va_K.moved hvm.symm hK1
  have hD := hD1.weaken (fun _ _ _ h => hFc _ h)
  generalize H1 = H at hP1 hS ⊢
  have hP := hP1
  have e_267 := hm_264.objK er_128 (by decide)
  have e_268 := hm_264.objK et_129 (by decide)
  obtain ⟨f_270, e_269⟩ := hm_264.arrI e_134
  have u_271 := ht_266 _ _ u_135
  obtain ⟨f_273, e_272⟩ := hm_264.arrI e_140
  have u_274 := ht_266 _ _ u_141
  have hsm := hsm.tr (hm_264.mono (by decide))
  have hlp_93 := hlp_93.tr (hm_264.mono (by decide))
  have htx := htx.tr ht_266
  rcases w_261 with rfl | rfl
  · refine lv_if_eq (tgt := 101) hx hb dX4_readEither_27 (by decide) (fun c_275 => ?_) (fun c_275 => absurd (by decide) c_275)
    refine lv_iload_n hx hb dX4_readEither_101 rfl (lv_at hl 2 rfl) ?_
    refine lv_if_eq (tgt := 111) hx hb dX4_readEither_102 (by decide) (fun c_276 => ?_) (fun c_276 => ?_)
    · refine lv_iload_n hx hb dX4_readEither_111 rfl (lv_at hl 1 rfl) ?_
      exact W.zret (v := x_86) hx hb hr (by rcases hbx_89 with h9 | h9 <;> rw [h9] <;> rfl) (fun t ht hW => ⟨⟨x_86, (), rfl, hbx_89, ws_262, ty_263, hsm, htx, by rw [ht]; exact hP, va_K.moved hW.alike hK, hD, (⟨ts_115, te_116, cc_117, ra_118, rb_119, rc_120, rv_121, re_122, ya_123, by omega, by omega, by omega, by omega, e_267, e_268, ⟨k_130, c9_131, t_132, f_270, e_269, u_271⟩, ⟨k_136, c9_137, t_138, f_273, e_272, u_274⟩⟩ : RS ws_262 ty_263 rd krd tp ktp cd bb tl)⟩, hS.F ht⟩) hS.2.2 dX4_readEither_112
    refine lv_aload_n hx hb dX4_readEither_105 rfl (lv_at hl 4 rfl) ?_
    refine lv_bipush (v := (-3)) hx hb dX4_readEither_106 (by decide) ?_
    have hFc := free_all hD hS hA
    refine va_callv (va_runV (As := [.int (-3)]) (rest := []) ⟨hx, hb, hml, hown, hts⟩ (r_addCode l D ws_262 ty_263 adK adV fo rd krd tp ktp cd bb tl (-3) H.size (⟨ts_115, te_116, cc_117, ra_118, rb_119, rc_120, rv_121, re_122, ya_123, by omega, by omega, by omega, by omega, e_267, e_268, ⟨k_130, c9_131, t_132, f_270, e_269, u_271⟩, ⟨k_136, c9_137, t_138, f_273, e_272, u_274⟩⟩ : RS ws_262 ty_263 rd krd tp ktp cd bb tl)) (cwV 1 hts gX4_readEither_X4_addCode rfl rfl rfl (by decide +kernel) ⟨Nat.le_of_ble_eq_true rfl, Nat.le_of_ble_eq_true rfl⟩) ⟨fun a U g mk q => by obtain ⟨q0, q1, qP, qK, qD, qS⟩ := q; exact ⟨q0, q1, qP, va_K.moved (u := U) (U := U.calling g mk a) (Vm.Alike.refl U.vm) qK, qD, SZ.same rfl rfl qS⟩, va_recv hK hP (ci := 4) (q0 := krd) rfl e_267, fun U hU hW => ⟨rfl, by rw [hU], by rw [hU]; exact hP, va_K.moved hW.alike hK, hD.weaken (fun _ _ _ _ => trivial), hsz9.go hS hW hU hFc⟩⟩ rfl rfl hl.1 rfl (lv_room (Nat.le_of_ble_eq_true rfl)) dX4_readEither_108 ⟨Nat.le_of_ble_eq_true rfl, Nat.le_of_ble_eq_true rfl⟩) hS (fun q _ h => hFc q h) hFc (fun u t H1 locs ht hvm w_278 hB hz1 hk1 hS => ?_)
    obtain ⟨ws_279, ty_280, hm_281, ht_283, hP1, hK1, hD1, hx_282⟩ := hB
    rw [ht] at hP1
    have hK := va_K.moved hvm.symm hK1
    have hD := hD1.weaken (fun _ _ _ h => hFc _ h)
    generalize H1 = H at hP1 hS ⊢
    have hP := hP1
    obtain ⟨g_285, e_284, h_286⟩ := hm_281.obj e_267
    obtain ⟨z_287, z_288, z_289, z_290, z_291, z_292, rfl⟩ := smX4 h_286
    obtain ⟨g_294, e_293, h_295⟩ := hm_281.obj e_268
    obtain ⟨z_296, z_297, z_298, z_299, rfl⟩ := smX6 h_295
    obtain ⟨f_301, e_300⟩ := hm_281.arrI e_269
    have u_302 := ht_283 _ _ u_271
    obtain ⟨f_304, e_303⟩ := hm_281.arrI e_272
    have u_305 := ht_283 _ _ u_274
    have hsm := hsm.tr (hm_281.mono (by decide))
    have hlp_93 := hlp_93.tr (hm_281.mono (by decide))
    have htx := htx.tr ht_283
    obtain ⟨ts_306, te_307, cc_308, ra_309, rb_310, rc_311, rv_312, re_313, ya_314, h1_315, h2_316, h3_317, h4_318, er_319, et_320, ⟨k_321, c9_322, t_323, f_324, e_325, u_326⟩, ⟨k_327, c9_328, t_329, f_330, e_331, u_332⟩⟩ := id hx_282
    refine lv_iload_n hx hb dX4_readEither_111 rfl (lv_at hl 1 rfl) ?_
    exact W.zret (v := x_86) hx hb hr (by rcases hbx_89 with h9 | h9 <;> rw [h9] <;> rfl) (fun t ht hW => ⟨⟨x_86, (), rfl, hbx_89, ws_279, ty_280, hsm, htx, by rw [ht]; exact hP, va_K.moved hW.alike hK, hD, (⟨ts_306, te_307, cc_308, ra_309, rb_310, rc_311, rv_312, re_313, ya_314, by omega, by omega, by omega, by omega, er_319, et_320, ⟨k_321, c9_322, t_323, f_324, e_325, u_326⟩, ⟨k_327, c9_328, t_329, f_330, e_331, u_332⟩⟩ : RS ws_279 ty_280 rd krd tp ktp cd bb tl)⟩, hS.F ht⟩) hS.2.2 dX4_readEither_112
  refine lv_if_eq (tgt := 101) hx hb dX4_readEither_27 (by decide) (fun c_333 => absurd c_333 (by decide)) (fun c_333 => ?_)
  refine lv_aload_n hx hb dX4_readEither_30 rfl (lv_at hl 4 rfl) ?_
  refine va_get (D := D) (ci := 4) (v := .ref tp) (C := RX4) (T := TX4) (N := 8) hx hb hts hin4 hown hK hP krd e_267 rfl 0 (by decide) (hts (.fieldLink RX4 12 "HoneyHouse$RuleReader" "tape" "LHoneyHouse$Tape;") (List.mem_of_getElem? (i := 1) rfl)) (fun _ h9 => h9) rfl dX4_readEither_31 ?_
  refine va_ldcS hx hb hown hsz9.2.2.2.2.2.1 dX4_readEither_34 ?_
  have hFc := free_all hD hS hA
  refine va_calli (va_runV (As := [.ref (adK 2)]) (rest := []) ⟨hx, hb, hml, hown, hts⟩ (a_isWord l D ws_262 ty_263 adK adV fo 2 tp ktp tl ya_123 (nI ts_115) (nI te_116) bb k_136 c9_137 t_138 f_273 H.size (by decide) e_268 e_272 u_274) (cwV 1 hts gX4_readEither_X6_isWord rfl rfl rfl (by decide +kernel) ⟨Nat.le_of_ble_eq_true rfl, Nat.le_of_ble_eq_true rfl⟩) ⟨fun a U g mk q => by obtain ⟨q0, q1, qP, qK, qD, qS⟩ := q; exact ⟨q0, q1, qP, va_K.moved (u := U) (U := U.calling g mk a) (Vm.Alike.refl U.vm) qK, qD, SZ.same rfl rfl qS⟩, va_recv hK hP (ci := 6) (q0 := ktp) rfl e_268, fun U hU hW => ⟨rfl, by rw [hU], by rw [hU]; exact hP, va_K.moved hW.alike hK, hD.weaken (fun _ _ _ _ => trivial), hsz9.go hS hW hU hFc⟩⟩ rfl rfl hl.1 rfl (lv_room (Nat.le_of_ble_eq_true rfl)) dX4_readEither_36 ⟨Nat.le_of_ble_eq_true rfl, Nat.le_of_ble_eq_true rfl⟩) hS (fun q _ h => hFc q h) hFc (fun r_334 u t H1 locs ht hvm w_335 hB hz1 hk1 hS => ?_)
  obtain ⟨ws_336, ty_337, hm_338, ht_340, hP1, hK1, hD1, hx_339⟩ := hB
  rw [ht] at hP1
  have hK := va_K.moved hvm.symm hK1
  have hD := hD1.weaken (fun _ _ _ h => hFc _ h)
  generalize H1 = H at hP1 hS ⊢
  have hP := hP1
  have e_341 := hm_338.objK e_267 (by decide)
  have e_342 := hm_338.objK e_268 (by decide)
  obtain ⟨f_344, e_343⟩ := hm_338.arrI e_269
  have u_345 := ht_340 _ _ u_271
  obtain ⟨f_347, e_346⟩ := hm_338.arrI e_272
  have u_348 := ht_340 _ _ u_274
  have hsm := hsm.tr (hm_338.mono (by decide))
  have hlp_93 := hlp_93.tr (hm_338.mono (by decide))
  have htx := htx.tr ht_340
  rcases w_335 with rfl | rfl
  · refine lv_istore (lv' := [(5, .int 0), (4, .int (nI i_85)), (2, .int x_86), (3, .int y_87), (1, .int 0), (0, .ref rd)]) hx hb dX4_readEither_39 hl (by decide) rfl (fun ls hl => ?_)
    refine lv_iload hx hb dX4_readEither_41 (lv_at hl 0 rfl) ?_
    refine lv_if_ne (tgt := 56) hx hb dX4_readEither_43 (by decide) (fun c_349 => absurd (by decide) c_349) (fun c_349 => ?_)
    refine lv_iload_n hx hb dX4_readEither_46 rfl (lv_at hl 3 rfl) ?_
    refine lv_if_eq (tgt := 56) hx hb dX4_readEither_47 (by decide) (fun c_350 => ?_) (fun c_350 => ?_)
    · refine lv_iload_n hx hb dX4_readEither_56 rfl (lv_at hl 3 rfl) ?_
      refine lv_if_ne (tgt := 65) hx hb dX4_readEither_57 (by decide) (fun c_351 => ?_) (fun c_351 => ?_)
      · refine lv_iconst (v := 1) hx hb dX4_readEither_65 (by decide) ?_
        refine lv_goto (tgt := 70) hx hb dX4_readEither_66 (by decide) ?_
        refine lv_istore_n (lv' := [(3, .int 1), (5, .int 0), (4, .int (nI i_85)), (2, .int x_86), (1, .int 0), (0, .ref rd)]) hx hb dX4_readEither_70 rfl hl (by decide) rfl (fun ls hl => ?_)
        refine lv_aload_n hx hb dX4_readEither_71 rfl (lv_at hl 5 rfl) ?_
        refine va_get (D := D) (ci := 4) (v := .ref tp) (C := RX4) (T := TX4) (N := 8) hx hb hts hin4 hown hK hP krd e_341 rfl 0 (by decide) (hts (.fieldLink RX4 12 "HoneyHouse$RuleReader" "tape" "LHoneyHouse$Tape;") (List.mem_of_getElem? (i := 1) rfl)) (fun _ h9 => h9) rfl dX4_readEither_72 ?_
        have hFc := free_all hD hS hA
        refine va_callv (va_runV (As := []) (rest := []) ⟨hx, hb, hml, hown, hts⟩ (a_advance l D ws_336 ty_337 tp ktp tl te_116 ya_123 (nI ts_115) bb k_136 c9_137 t_138 f_347 H.size (by omega) (by omega) e_342 e_346 u_348) (cwV 0 hts gX4_readEither_X6_advance rfl rfl rfl (by decide +kernel) ⟨Nat.le_of_ble_eq_true rfl, Nat.le_of_ble_eq_true rfl⟩) ⟨fun a U g mk q => by obtain ⟨q0, q1, qP, qK, qD⟩ := q; exact ⟨q0, q1, qP, va_K.moved (u := U) (U := U.calling g mk a) (Vm.Alike.refl U.vm) qK, qD⟩, va_recv hK hP (ci := 6) (q0 := ktp) rfl e_342, fun U hU hW => ⟨rfl, by rw [hU], by rw [hU]; exact hP, va_K.moved hW.alike hK, hD.weaken (fun _ _ _ _ => trivial)⟩⟩ rfl rfl hl.1 rfl (lv_room (Nat.le_of_ble_eq_true rfl)) dX4_readEither_75 ⟨Nat.le_of_ble_eq_true rfl, Nat.le_of_ble_eq_true rfl⟩) hS (fun q _ h => hFc q h) hFc (fun u t H1 locs ht hvm w_353 hB hz1 hk1 hS => ?_)
        obtain ⟨ws_354, ty_355, hm_356, ht_358, hP1, hK1, hD1, hx_357⟩ := hB
        rw [ht] at hP1
        have hK := va_K.moved hvm.symm hK1
        have hD := hD1.weaken (fun _ _ _ h => hFc _ h)
        generalize H1 = H at hP1 hS ⊢
        have hP := hP1
        have e_359 := hm_356.objK e_341 (by decide)
        obtain ⟨g_361, e_360, h_362⟩ := hm_356.obj e_342
        obtain ⟨z_363, z_364, z_365, z_366, rfl⟩ := smX6 h_362
        obtain ⟨f_368, e_367⟩ := hm_356.arrI e_343
        have u_369 := ht_358 _ _ u_345
        obtain ⟨f_371, e_370⟩ := hm_356.arrI e_346
        have u_372 := ht_358 _ _ u_348
        have hsm := hsm.tr (hm_356.mono (by decide))
        have hlp_93 := hlp_93.tr (hm_356.mono (by decide))
        have htx := htx.tr ht_358
        obtain ⟨k_373, s_374, e_375, h_376, h_377, h_378, e_379⟩ := hx_357
        refine lv_aload_n hx hb dX4_readEither_78 rfl (lv_at hl 5 rfl) ?_
        refine lv_iload_n hx hb dX4_readEither_79 rfl (lv_at hl 4 rfl) ?_
        have hFc := free_all hD hS hA
        refine va_calli (va_runV (As := [.int 0]) (rest := []) ⟨hx, hb, hml, hown, hts⟩ (r_readOne0 l D ws_354 ty_355 adK adV fo rd krd tp ktp cd bb tl  H.size (⟨s_374, e_375, cc_117, ra_118, rb_119, rc_120, rv_121, re_122, nI k_373, by omega, by omega, by omega, by omega, e_359, e_379, ⟨k_130, c9_131, t_132, f_368, e_367, u_369⟩, ⟨k_136, c9_137, t_138, f_371, e_370, u_372⟩⟩ : RS ws_354 ty_355 rd krd tp ktp cd bb tl)) (cwV 1 hts gX4_readEither_X4_readOne rfl rfl rfl (by decide +kernel) ⟨Nat.le_of_ble_eq_true rfl, Nat.le_of_ble_eq_true rfl⟩) ⟨fun a U g mk q => by obtain ⟨q0, q1, qP, qK, qD, qS⟩ := q; exact ⟨q0, q1, qP, va_K.moved (u := U) (U := U.calling g mk a) (Vm.Alike.refl U.vm) qK, qD, SZ.same rfl rfl qS⟩, va_recv hK hP (ci := 4) (q0 := krd) rfl e_359, fun U hU hW => ⟨rfl, by rw [hU], by rw [hU]; exact hP, va_K.moved hW.alike hK, hD.weaken (fun _ _ _ _ => trivial), hsz9.go hS hW hU hFc⟩⟩ rfl rfl hl.1 rfl (lv_room (Nat.le_of_ble_eq_true rfl)) dX4_readEither_80 ⟨Nat.le_of_ble_eq_true rfl, Nat.le_of_ble_eq_true rfl⟩) hS (fun q _ h => hFc q h) hFc (fun r_380 u t H1 locs ht hvm w_381 hB hz1 hk1 hS => ?_)
        obtain ⟨ws_382, ty_383, hm_384, ht_386, hP1, hK1, hD1, hx_385⟩ := hB
        rw [ht] at hP1
        have hK := va_K.moved hvm.symm hK1
        have hD := hD1.weaken (fun _ _ _ h => hFc _ h)
        generalize H1 = H at hP1 hS ⊢
        have hP := hP1
        obtain ⟨g_388, e_387, h_389⟩ := hm_384.obj e_359
        obtain ⟨z_390, z_391, z_392, z_393, z_394, z_395, rfl⟩ := smX4 h_389
        obtain ⟨g_397, e_396, h_398⟩ := hm_384.obj e_379
        obtain ⟨z_399, z_400, z_401, z_402, rfl⟩ := smX6 h_398
        obtain ⟨f_404, e_403⟩ := hm_384.arrI e_367
        have u_405 := ht_386 _ _ u_369
        obtain ⟨f_407, e_406⟩ := hm_384.arrI e_370
        have u_408 := ht_386 _ _ u_372
        have hsm := hsm.tr (hm_384.mono (by decide))
        have hlp_93 := hlp_93.tr (hm_384.mono (by decide))
        have htx := htx.tr ht_386
        obtain ⟨ts_409, te_410, cc_411, ra_412, rb_413, rc_414, rv_415, re_416, ya_417, h1_418, h2_419, h3_420, h4_421, er_422, et_423, ⟨k_424, c9_425, t_426, f_427, e_428, u_429⟩, ⟨k_430, c9_431, t_432, f_433, e_434, u_435⟩⟩ := id hx_385
        refine lv_istore_n (lv' := [(2, .int r_380), (3, .int 1), (5, .int 0), (4, .int (nI i_85)), (1, .int 0), (0, .ref rd)]) hx hb dX4_readEither_83 rfl hl (by decide) rfl (fun ls hl => ?_)
        refine lv_iload hx hb dX4_readEither_84 (lv_at hl 2 rfl) ?_
        refine lv_if_eq (tgt := 95) hx hb dX4_readEither_86 (by decide) (fun c_436 => ?_) (fun c_436 => absurd (by decide) c_436)
        refine lv_iinc (v := nI (i_85 + 1)) (lv' := [(4, .int (nI (i_85 + 1))), (2, .int r_380), (3, .int 1), (5, .int 0), (1, .int 0), (0, .ref rd)]) hx hb dX4_readEither_95 hl (k := 3) rfl (nI_add i_85 1) (by decide) rfl (fun ls hl => ?_)
        refine lv_goto (tgt := 11) hx hb dX4_readEither_98 (by decide) ?_
        exact ih_84 (i_85 + 1, r_380, 1) ws_382 _ _ ls (by show 400 - (i_85 + 1) < 400 - i_85; omega) ⟨hlp_93, (⟨ts_409, te_410, cc_411, ra_412, rb_413, rc_414, rv_415, re_416, ya_417, by omega, by omega, by omega, by omega, er_422, et_423, ⟨k_424, c9_425, t_426, f_427, e_428, u_429⟩, ⟨k_430, c9_431, t_432, f_433, e_434, u_435⟩⟩ : RS ws_382 ty_383 rd krd tp ktp cd bb tl), (show (i_85 + 1) ≤ 400 from by omega), (show r_380 = 0 ∨ r_380 = 1 from w_381), (show 1 = 0 ∨ 1 = 1 from Or.inr rfl)⟩ hP hD hS (lv_sub hl [0, 1, 2, 4, 5] rfl)
      refine lv_iload hx hb dX4_readEither_60 (lv_at hl 0 rfl) ?_
      refine lv_if_ne (tgt := 69) hx hb dX4_readEither_62 (by decide) (fun c_437 => absurd (by decide) c_437) (fun c_437 => ?_)
      refine lv_iconst (v := 1) hx hb dX4_readEither_65 (by decide) ?_
      refine lv_goto (tgt := 70) hx hb dX4_readEither_66 (by decide) ?_
      refine lv_istore_n (lv' := [(3, .int 1), (5, .int 0), (4, .int (nI i_85)), (2, .int x_86), (1, .int 0), (0, .ref rd)]) hx hb dX4_readEither_70 rfl hl (by decide) rfl (fun ls hl => ?_)
      refine lv_aload_n hx hb dX4_readEither_71 rfl (lv_at hl 5 rfl) ?_
      refine va_get (D := D) (ci := 4) (v := .ref tp) (C := RX4) (T := TX4) (N := 8) hx hb hts hin4 hown hK hP krd e_341 rfl 0 (by decide) (hts (.fieldLink RX4 12 "HoneyHouse$RuleReader" "tape" "LHoneyHouse$Tape;") (List.mem_of_getElem? (i := 1) rfl)) (fun _ h9 => h9) rfl dX4_readEither_72 ?_
      have hFc := free_all hD hS hA
      refine va_callv (va_runV (As := []) (rest := []) ⟨hx, hb, hml, hown, hts⟩ (a_advance l D ws_336 ty_337 tp ktp tl te_116 ya_123 (nI ts_115) bb k_136 c9_137 t_138 f_347 H.size (by omega) (by omega) e_342 e_346 u_348) (cwV 0 hts gX4_readEither_X6_advance rfl rfl rfl (by decide +kernel) ⟨Nat.le_of_ble_eq_true rfl, Nat.le_of_ble_eq_true rfl⟩) ⟨fun a U g mk q => by obtain ⟨q0, q1, qP, qK, qD⟩ := q; exact ⟨q0, q1, qP, va_K.moved (u := U) (U := U.calling g mk a) (Vm.Alike.refl U.vm) qK, qD⟩, va_recv hK hP (ci := 6) (q0 := ktp) rfl e_342, fun U hU hW => ⟨rfl, by rw [hU], by rw [hU]; exact hP, va_K.moved hW.alike hK, hD.weaken (fun _ _ _ _ => trivial)⟩⟩ rfl rfl hl.1 rfl (lv_room (Nat.le_of_ble_eq_true rfl)) dX4_readEither_75 ⟨Nat.le_of_ble_eq_true rfl, Nat.le_of_ble_eq_true rfl⟩) hS (fun q _ h => hFc q h) hFc (fun u t H1 locs ht hvm w_439 hB hz1 hk1 hS => ?_)
      obtain ⟨ws_440, ty_441, hm_442, ht_444, hP1, hK1, hD1, hx_443⟩ := hB
      rw [ht] at hP1
      have hK := va_K.moved hvm.symm hK1
      have hD := hD1.weaken (fun _ _ _ h => hFc _ h)
      generalize H1 = H at hP1 hS ⊢
      have hP := hP1
      have e_445 := hm_442.objK e_341 (by decide)
      obtain ⟨g_447, e_446, h_448⟩ := hm_442.obj e_342
      obtain ⟨z_449, z_450, z_451, z_452, rfl⟩ := smX6 h_448
      obtain ⟨f_454, e_453⟩ := hm_442.arrI e_343
      have u_455 := ht_444 _ _ u_345
      obtain ⟨f_457, e_456⟩ := hm_442.arrI e_346
      have u_458 := ht_444 _ _ u_348
      have hsm := hsm.tr (hm_442.mono (by decide))
      have hlp_93 := hlp_93.tr (hm_442.mono (by decide))
      have htx := htx.tr ht_444
      obtain ⟨k_459, s_460, e_461, h_462, h_463, h_464, e_465⟩ := hx_443
      refine lv_aload_n hx hb dX4_readEither_78 rfl (lv_at hl 5 rfl) ?_
      refine lv_iload_n hx hb dX4_readEither_79 rfl (lv_at hl 4 rfl) ?_
      have hFc := free_all hD hS hA
      refine va_calli (va_runV (As := [.int 0]) (rest := []) ⟨hx, hb, hml, hown, hts⟩ (r_readOne0 l D ws_440 ty_441 adK adV fo rd krd tp ktp cd bb tl  H.size (⟨s_460, e_461, cc_117, ra_118, rb_119, rc_120, rv_121, re_122, nI k_459, by omega, by omega, by omega, by omega, e_445, e_465, ⟨k_130, c9_131, t_132, f_454, e_453, u_455⟩, ⟨k_136, c9_137, t_138, f_457, e_456, u_458⟩⟩ : RS ws_440 ty_441 rd krd tp ktp cd bb tl)) (cwV 1 hts gX4_readEither_X4_readOne rfl rfl rfl (by decide +kernel) ⟨Nat.le_of_ble_eq_true rfl, Nat.le_of_ble_eq_true rfl⟩) ⟨fun a U g mk q => by obtain ⟨q0, q1, qP, qK, qD, qS⟩ := q; exact ⟨q0, q1, qP, va_K.moved (u := U) (U := U.calling g mk a) (Vm.Alike.refl U.vm) qK, qD, SZ.same rfl rfl qS⟩, va_recv hK hP (ci := 4) (q0 := krd) rfl e_445, fun U hU hW => ⟨rfl, by rw [hU], by rw [hU]; exact hP, va_K.moved hW.alike hK, hD.weaken (fun _ _ _ _ => trivial), hsz9.go hS hW hU hFc⟩⟩ rfl rfl hl.1 rfl (lv_room (Nat.le_of_ble_eq_true rfl)) dX4_readEither_80 ⟨Nat.le_of_ble_eq_true rfl, Nat.le_of_ble_eq_true rfl⟩) hS (fun q _ h => hFc q h) hFc (fun r_466 u t H1 locs ht hvm w_467 hB hz1 hk1 hS => ?_)
      obtain ⟨ws_468, ty_469, hm_470, ht_472, hP1, hK1, hD1, hx_471⟩ := hB
      rw [ht] at hP1
      have hK := va_K.moved hvm.symm hK1
      have hD := hD1.weaken (fun _ _ _ h => hFc _ h)
      generalize H1 = H at hP1 hS ⊢
      have hP := hP1
      obtain ⟨g_474, e_473, h_475⟩ := hm_470.obj e_445
      obtain ⟨z_476, z_477, z_478, z_479, z_480, z_481, rfl⟩ := smX4 h_475
      obtain ⟨g_483, e_482, h_484⟩ := hm_470.obj e_465
      obtain ⟨z_485, z_486, z_487, z_488, rfl⟩ := smX6 h_484
      obtain ⟨f_490, e_489⟩ := hm_470.arrI e_453
      have u_491 := ht_472 _ _ u_455
      obtain ⟨f_493, e_492⟩ := hm_470.arrI e_456
      have u_494 := ht_472 _ _ u_458
      have hsm := hsm.tr (hm_470.mono (by decide))
      have hlp_93 := hlp_93.tr (hm_470.mono (by decide))
      have htx := htx.tr ht_472
      obtain ⟨ts_495, te_496, cc_497, ra_498, rb_499, rc_500, rv_501, re_502, ya_503, h1_504, h2_505, h3_506, h4_507, er_508, et_509, ⟨k_510, c9_511, t_512, f_513, e_514, u_515⟩, ⟨k_516, c9_517, t_518, f_519, e_520, u_521⟩⟩ := id hx_471
      refine lv_istore_n (lv' := [(2, .int r_466), (3, .int 1), (5, .int 0), (4, .int (nI i_85)), (1, .int 0), (0, .ref rd)]) hx hb dX4_readEither_83 rfl hl (by decide) rfl (fun ls hl => ?_)
      refine lv_iload hx hb dX4_readEither_84 (lv_at hl 2 rfl) ?_
      refine lv_if_eq (tgt := 95) hx hb dX4_readEither_86 (by decide) (fun c_522 => ?_) (fun c_522 => absurd (by decide) c_522)
      refine lv_iinc (v := nI (i_85 + 1)) (lv' := [(4, .int (nI (i_85 + 1))), (2, .int r_466), (3, .int 1), (5, .int 0), (1, .int 0), (0, .ref rd)]) hx hb dX4_readEither_95 hl (k := 3) rfl (nI_add i_85 1) (by decide) rfl (fun ls hl => ?_)
      refine lv_goto (tgt := 11) hx hb dX4_readEither_98 (by decide) ?_
      exact ih_84 (i_85 + 1, r_466, 1) ws_468 _ _ ls (by show 400 - (i_85 + 1) < 400 - i_85; omega) ⟨hlp_93, (⟨ts_495, te_496, cc_497, ra_498, rb_499, rc_500, rv_501, re_502, ya_503, by omega, by omega, by omega, by omega, er_508, et_509, ⟨k_510, c9_511, t_512, f_513, e_514, u_515⟩, ⟨k_516, c9_517, t_518, f_519, e_520, u_521⟩⟩ : RS ws_468 ty_469 rd krd tp ktp cd bb tl), (show (i_85 + 1) ≤ 400 from by omega), (show r_466 = 0 ∨ r_466 = 1 from w_467), (show 1 = 0 ∨ 1 = 1 from Or.inr rfl)⟩ hP hD hS (lv_sub hl [0, 1, 2, 4, 5] rfl)
    refine lv_aload_n hx hb dX4_readEither_50 rfl (lv_at hl 5 rfl) ?_
    refine lv_bipush (v := (-3)) hx hb dX4_readEither_51 (by decide) ?_
    have hFc := free_all hD hS hA
    refine va_callv (va_runV (As := [.int (-3)]) (rest := []) ⟨hx, hb, hml, hown, hts⟩ (r_addCode l D ws_336 ty_337 adK adV fo rd krd tp ktp cd bb tl (-3) H.size (⟨ts_115, te_116, cc_117, ra_118, rb_119, rc_120, rv_121, re_122, ya_123, by omega, by omega, by omega, by omega, e_341, e_342, ⟨k_130, c9_131, t_132, f_344, e_343, u_345⟩, ⟨k_136, c9_137, t_138, f_347, e_346, u_348⟩⟩ : RS ws_336 ty_337 rd krd tp ktp cd bb tl)) (cwV 1 hts gX4_readEither_X4_addCode rfl rfl rfl (by decide +kernel) ⟨Nat.le_of_ble_eq_true rfl, Nat.le_of_ble_eq_true rfl⟩) ⟨fun a U g mk q => by obtain ⟨q0, q1, qP, qK, qD, qS⟩ := q; exact ⟨q0, q1, qP, va_K.moved (u := U) (U := U.calling g mk a) (Vm.Alike.refl U.vm) qK, qD, SZ.same rfl rfl qS⟩, va_recv hK hP (ci := 4) (q0 := krd) rfl e_341, fun U hU hW => ⟨rfl, by rw [hU], by rw [hU]; exact hP, va_K.moved hW.alike hK, hD.weaken (fun _ _ _ _ => trivial), hsz9.go hS hW hU hFc⟩⟩ rfl rfl hl.1 rfl (lv_room (Nat.le_of_ble_eq_true rfl)) dX4_readEither_53 ⟨Nat.le_of_ble_eq_true rfl, Nat.le_of_ble_eq_true rfl⟩) hS (fun q _ h => hFc q h) hFc (fun u t H1 locs ht hvm w_524 hB hz1 hk1 hS => ?_)
    obtain ⟨ws_525, ty_526, hm_527, ht_529, hP1, hK1, hD1, hx_528⟩ := hB
    rw [ht] at hP1
    have hK := va_K.moved hvm.symm hK1
    have hD := hD1.weaken (fun _ _ _ h => hFc _ h)
    generalize H1 = H at hP1 hS ⊢
    have hP := hP1
    obtain ⟨g_531, e_530, h_532⟩ := hm_527.obj e_341
    obtain ⟨z_533, z_534, z_535, z_536, z_537, z_538, rfl⟩ := smX4 h_532
    obtain ⟨g_540, e_539, h_541⟩ := hm_527.obj e_342
    obtain ⟨z_542, z_543, z_544, z_545, rfl⟩ := smX6 h_541
    obtain ⟨f_547, e_546⟩ := hm_527.arrI e_343
    have u_548 := ht_529 _ _ u_345
    obtain ⟨f_550, e_549⟩ := hm_527.arrI e_346
    have u_551 := ht_529 _ _ u_348
    have hsm := hsm.tr (hm_527.mono (by decide))
    have hlp_93 := hlp_93.tr (hm_527.mono (by decide))
    have htx := htx.tr ht_529
    obtain ⟨ts_552, te_553, cc_554, ra_555, rb_556, rc_557, rv_558, re_559, ya_560, h1_561, h2_562, h3_563, h4_564, er_565, et_566, ⟨k_567, c9_568, t_569, f_570, e_571, u_572⟩, ⟨k_573, c9_574, t_575, f_576, e_577, u_578⟩⟩ := id hx_528
    refine lv_iload_n hx hb dX4_readEither_56 rfl (lv_at hl 3 rfl) ?_
    refine lv_if_ne (tgt := 65) hx hb dX4_readEither_57 (by decide) (fun c_579 => ?_) (fun c_579 => ?_)
    · refine lv_iconst (v := 1) hx hb dX4_readEither_65 (by decide) ?_
      refine lv_goto (tgt := 70) hx hb dX4_readEither_66 (by decide) ?_
      refine lv_istore_n (lv' := [(3, .int 1), (5, .int 0), (4, .int (nI i_85)), (2, .int x_86), (1, .int 0), (0, .ref rd)]) hx hb dX4_readEither_70 rfl hl (by decide) rfl (fun ls hl => ?_)
      refine lv_aload_n hx hb dX4_readEither_71 rfl (lv_at hl 5 rfl) ?_
      refine va_get (D := D) (ci := 4) (v := .ref tp) (C := RX4) (T := TX4) (N := 8) hx hb hts hin4 hown hK hP krd er_565 rfl 0 (by decide) (hts (.fieldLink RX4 12 "HoneyHouse$RuleReader" "tape" "LHoneyHouse$Tape;") (List.mem_of_getElem? (i := 1) rfl)) (fun _ h9 => h9) rfl dX4_readEither_72 ?_
      have hFc := free_all hD hS hA
      refine va_callv (va_runV (As := []) (rest := []) ⟨hx, hb, hml, hown, hts⟩ (a_advance l D ws_525 ty_526 tp ktp tl te_553 ya_560 (nI ts_552) bb k_573 c9_574 t_575 f_576 H.size (by omega) (by omega) et_566 e_577 u_578) (cwV 0 hts gX4_readEither_X6_advance rfl rfl rfl (by decide +kernel) ⟨Nat.le_of_ble_eq_true rfl, Nat.le_of_ble_eq_true rfl⟩) ⟨fun a U g mk q => by obtain ⟨q0, q1, qP, qK, qD⟩ := q; exact ⟨q0, q1, qP, va_K.moved (u := U) (U := U.calling g mk a) (Vm.Alike.refl U.vm) qK, qD⟩, va_recv hK hP (ci := 6) (q0 := ktp) rfl et_566, fun U hU hW => ⟨rfl, by rw [hU], by rw [hU]; exact hP, va_K.moved hW.alike hK, hD.weaken (fun _ _ _ _ => trivial)⟩⟩ rfl rfl hl.1 rfl (lv_room (Nat.le_of_ble_eq_true rfl)) dX4_readEither_75 ⟨Nat.le_of_ble_eq_true rfl, Nat.le_of_ble_eq_true rfl⟩) hS (fun q _ h => hFc q h) hFc (fun u t H1 locs ht hvm w_581 hB hz1 hk1 hS => ?_)
      obtain ⟨ws_582, ty_583, hm_584, ht_586, hP1, hK1, hD1, hx_585⟩ := hB
      rw [ht] at hP1
      have hK := va_K.moved hvm.symm hK1
      have hD := hD1.weaken (fun _ _ _ h => hFc _ h)
      generalize H1 = H at hP1 hS ⊢
      have hP := hP1
      have e_587 := hm_584.objK er_565 (by decide)
      obtain ⟨g_589, e_588, h_590⟩ := hm_584.obj et_566
      obtain ⟨z_591, z_592, z_593, z_594, rfl⟩ := smX6 h_590
      obtain ⟨f_596, e_595⟩ := hm_584.arrI e_571
      have u_597 := ht_586 _ _ u_572
      obtain ⟨f_599, e_598⟩ := hm_584.arrI e_577
      have u_600 := ht_586 _ _ u_578
      have hsm := hsm.tr (hm_584.mono (by decide))
      have hlp_93 := hlp_93.tr (hm_584.mono (by decide))
      have htx := htx.tr ht_586
      obtain ⟨k_601, s_602, e_603, h_604, h_605, h_606, e_607⟩ := hx_585
      refine lv_aload_n hx hb dX4_readEither_78 rfl (lv_at hl 5 rfl) ?_
      refine lv_iload_n hx hb dX4_readEither_79 rfl (lv_at hl 4 rfl) ?_
      have hFc := free_all hD hS hA
      refine va_calli (va_runV (As := [.int 0]) (rest := []) ⟨hx, hb, hml, hown, hts⟩ (r_readOne0 l D ws_582 ty_583 adK adV fo rd krd tp ktp cd bb tl  H.size (⟨s_602, e_603, cc_554, ra_555, rb_556, rc_557, rv_558, re_559, nI k_601, by omega, by omega, by omega, by omega, e_587, e_607, ⟨k_567, c9_568, t_569, f_596, e_595, u_597⟩, ⟨k_573, c9_574, t_575, f_599, e_598, u_600⟩⟩ : RS ws_582 ty_583 rd krd tp ktp cd bb tl)) (cwV 1 hts gX4_readEither_X4_readOne rfl rfl rfl (by decide +kernel) ⟨Nat.le_of_ble_eq_true rfl, Nat.le_of_ble_eq_true rfl⟩) ⟨fun a U g mk q => by obtain ⟨q0, q1, qP, qK, qD, qS⟩ := q; exact ⟨q0, q1, qP, va_K.moved (u := U) (U := U.calling g mk a) (Vm.Alike.refl U.vm) qK, qD, SZ.same rfl rfl qS⟩, va_recv hK hP (ci := 4) (q0 := krd) rfl e_587, fun U hU hW => ⟨rfl, by rw [hU], by rw [hU]; exact hP, va_K.moved hW.alike hK, hD.weaken (fun _ _ _ _ => trivial), hsz9.go hS hW hU hFc⟩⟩ rfl rfl hl.1 rfl (lv_room (Nat.le_of_ble_eq_true rfl)) dX4_readEither_80 ⟨Nat.le_of_ble_eq_true rfl, Nat.le_of_ble_eq_true rfl⟩) hS (fun q _ h => hFc q h) hFc (fun r_608 u t H1 locs ht hvm w_609 hB hz1 hk1 hS => ?_)
      obtain ⟨ws_610, ty_611, hm_612, ht_614, hP1, hK1, hD1, hx_613⟩ := hB
      rw [ht] at hP1
      have hK := va_K.moved hvm.symm hK1
      have hD := hD1.weaken (fun _ _ _ h => hFc _ h)
      generalize H1 = H at hP1 hS ⊢
      have hP := hP1
      obtain ⟨g_616, e_615, h_617⟩ := hm_612.obj e_587
      obtain ⟨z_618, z_619, z_620, z_621, z_622, z_623, rfl⟩ := smX4 h_617
      obtain ⟨g_625, e_624, h_626⟩ := hm_612.obj e_607
      obtain ⟨z_627, z_628, z_629, z_630, rfl⟩ := smX6 h_626
      obtain ⟨f_632, e_631⟩ := hm_612.arrI e_595
      have u_633 := ht_614 _ _ u_597
      obtain ⟨f_635, e_634⟩ := hm_612.arrI e_598
      have u_636 := ht_614 _ _ u_600
      have hsm := hsm.tr (hm_612.mono (by decide))
      have hlp_93 := hlp_93.tr (hm_612.mono (by decide))
      have htx := htx.tr ht_614
      obtain ⟨ts_637, te_638, cc_639, ra_640, rb_641, rc_642, rv_643, re_644, ya_645, h1_646, h2_647, h3_648, h4_649, er_650, et_651, ⟨k_652, c9_653, t_654, f_655, e_656, u_657⟩, ⟨k_658, c9_659, t_660, f_661, e_662, u_663⟩⟩ := id hx_613
      refine lv_istore_n (lv' := [(2, .int r_608), (3, .int 1), (5, .int 0), (4, .int (nI i_85)), (1, .int 0), (0, .ref rd)]) hx hb dX4_readEither_83 rfl hl (by decide) rfl (fun ls hl => ?_)
      refine lv_iload hx hb dX4_readEither_84 (lv_at hl 2 rfl) ?_
      refine lv_if_eq (tgt := 95) hx hb dX4_readEither_86 (by decide) (fun c_664 => ?_) (fun c_664 => absurd (by decide) c_664)
      refine lv_iinc (v := nI (i_85 + 1)) (lv' := [(4, .int (nI (i_85 + 1))), (2, .int r_608), (3, .int 1), (5, .int 0), (1, .int 0), (0, .ref rd)]) hx hb dX4_readEither_95 hl (k := 3) rfl (nI_add i_85 1) (by decide) rfl (fun ls hl => ?_)
      refine lv_goto (tgt := 11) hx hb dX4_readEither_98 (by decide) ?_
      exact ih_84 (i_85 + 1, r_608, 1) ws_610 _ _ ls (by show 400 - (i_85 + 1) < 400 - i_85; omega) ⟨hlp_93, (⟨ts_637, te_638, cc_639, ra_640, rb_641, rc_642, rv_643, re_644, ya_645, by omega, by omega, by omega, by omega, er_650, et_651, ⟨k_652, c9_653, t_654, f_655, e_656, u_657⟩, ⟨k_658, c9_659, t_660, f_661, e_662, u_663⟩⟩ : RS ws_610 ty_611 rd krd tp ktp cd bb tl), (show (i_85 + 1) ≤ 400 from by omega), (show r_608 = 0 ∨ r_608 = 1 from w_609), (show 1 = 0 ∨ 1 = 1 from Or.inr rfl)⟩ hP hD hS (lv_sub hl [0, 1, 2, 4, 5] rfl)
    refine lv_iload hx hb dX4_readEither_60 (lv_at hl 0 rfl) ?_
    refine lv_if_ne (tgt := 69) hx hb dX4_readEither_62 (by decide) (fun c_665 => absurd (by decide) c_665) (fun c_665 => ?_)
    refine lv_iconst (v := 1) hx hb dX4_readEither_65 (by decide) ?_
    refine lv_goto (tgt := 70) hx hb dX4_readEither_66 (by decide) ?_
    refine lv_istore_n (lv' := [(3, .int 1), (5, .int 0), (4, .int (nI i_85)), (2, .int x_86), (1, .int 0), (0, .ref rd)]) hx hb dX4_readEither_70 rfl hl (by decide) rfl (fun ls hl => ?_)
    refine lv_aload_n hx hb dX4_readEither_71 rfl (lv_at hl 5 rfl) ?_
    refine va_get (D := D) (ci := 4) (v := .ref tp) (C := RX4) (T := TX4) (N := 8) hx hb hts hin4 hown hK hP krd er_565 rfl 0 (by decide) (hts (.fieldLink RX4 12 "HoneyHouse$RuleReader" "tape" "LHoneyHouse$Tape;") (List.mem_of_getElem? (i := 1) rfl)) (fun _ h9 => h9) rfl dX4_readEither_72 ?_
    have hFc := free_all hD hS hA
    refine va_callv (va_runV (As := []) (rest := []) ⟨hx, hb, hml, hown, hts⟩ (a_advance l D ws_525 ty_526 tp ktp tl te_553 ya_560 (nI ts_552) bb k_573 c9_574 t_575 f_576 H.size (by omega) (by omega) et_566 e_577 u_578) (cwV 0 hts gX4_readEither_X6_advance rfl rfl rfl (by decide +kernel) ⟨Nat.le_of_ble_eq_true rfl, Nat.le_of_ble_eq_true rfl⟩) ⟨fun a U g mk q => by obtain ⟨q0, q1, qP, qK, qD⟩ := q; exact ⟨q0, q1, qP, va_K.moved (u := U) (U := U.calling g mk a) (Vm.Alike.refl U.vm) qK, qD⟩, va_recv hK hP (ci := 6) (q0 := ktp) rfl et_566, fun U hU hW => ⟨rfl, by rw [hU], by rw [hU]; exact hP, va_K.moved hW.alike hK, hD.weaken (fun _ _ _ _ => trivial)⟩⟩ rfl rfl hl.1 rfl (lv_room (Nat.le_of_ble_eq_true rfl)) dX4_readEither_75 ⟨Nat.le_of_ble_eq_true rfl, Nat.le_of_ble_eq_true rfl⟩) hS (fun q _ h => hFc q h) hFc (fun u t H1 locs ht hvm w_667 hB hz1 hk1 hS => ?_)
    obtain ⟨ws_668, ty_669, hm_670, ht_672, hP1, hK1, hD1, hx_671⟩ := hB
    rw [ht] at hP1
    have hK := va_K.moved hvm.symm hK1
    have hD := hD1.weaken (fun _ _ _ h => hFc _ h)
    generalize H1 = H at hP1 hS ⊢
    have hP := hP1
    have e_673 := hm_670.objK er_565 (by decide)
    obtain ⟨g_675, e_674, h_676⟩ := hm_670.obj et_566
    obtain ⟨z_677, z_678, z_679, z_680, rfl⟩ := smX6 h_676
    obtain ⟨f_682, e_681⟩ := hm_670.arrI e_571
    have u_683 := ht_672 _ _ u_572
    obtain ⟨f_685, e_684⟩ := hm_670.arrI e_577
    have u_686 := ht_672 _ _ u_578
    have hsm := hsm.tr (hm_670.mono (by decide))
    have hlp_93 := hlp_93.tr (hm_670.mono (by decide))
    have htx := htx.tr ht_672
    obtain ⟨k_687, s_688, e_689, h_690, h_691, h_692, e_693⟩ := hx_671
    refine lv_aload_n hx hb dX4_readEither_78 rfl (lv_at hl 5 rfl) ?_
    refine lv_iload_n hx hb dX4_readEither_79 rfl (lv_at hl 4 rfl) ?_
    have hFc := free_all hD hS hA
    refine va_calli (va_runV (As := [.int 0]) (rest := []) ⟨hx, hb, hml, hown, hts⟩ (r_readOne0 l D ws_668 ty_669 adK adV fo rd krd tp ktp cd bb tl  H.size (⟨s_688, e_689, cc_554, ra_555, rb_556, rc_557, rv_558, re_559, nI k_687, by omega, by omega, by omega, by omega, e_673, e_693, ⟨k_567, c9_568, t_569, f_682, e_681, u_683⟩, ⟨k_573, c9_574, t_575, f_685, e_684, u_686⟩⟩ : RS ws_668 ty_669 rd krd tp ktp cd bb tl)) (cwV 1 hts gX4_readEither_X4_readOne rfl rfl rfl (by decide +kernel) ⟨Nat.le_of_ble_eq_true rfl, Nat.le_of_ble_eq_true rfl⟩) ⟨fun a U g mk q => by obtain ⟨q0, q1, qP, qK, qD, qS⟩ := q; exact ⟨q0, q1, qP, va_K.moved (u := U) (U := U.calling g mk a) (Vm.Alike.refl U.vm) qK, qD, SZ.same rfl rfl qS⟩, va_recv hK hP (ci := 4) (q0 := krd) rfl e_673, fun U hU hW => ⟨rfl, by rw [hU], by rw [hU]; exact hP, va_K.moved hW.alike hK, hD.weaken (fun _ _ _ _ => trivial), hsz9.go hS hW hU hFc⟩⟩ rfl rfl hl.1 rfl (lv_room (Nat.le_of_ble_eq_true rfl)) dX4_readEither_80 ⟨Nat.le_of_ble_eq_true rfl, Nat.le_of_ble_eq_true rfl⟩) hS (fun q _ h => hFc q h) hFc (fun r_694 u t H1 locs ht hvm w_695 hB hz1 hk1 hS => ?_)
    obtain ⟨ws_696, ty_697, hm_698, ht_700, hP1, hK1, hD1, hx_699⟩ := hB
    rw [ht] at hP1
    have hK := va_K.moved hvm.symm hK1
    have hD := hD1.weaken (fun _ _ _ h => hFc _ h)
    generalize H1 = H at hP1 hS ⊢
    have hP := hP1
    obtain ⟨g_702, e_701, h_703⟩ := hm_698.obj e_673
    obtain ⟨z_704, z_705, z_706, z_707, z_708, z_709, rfl⟩ := smX4 h_703
    obtain ⟨g_711, e_710, h_712⟩ := hm_698.obj e_693
    obtain ⟨z_713, z_714, z_715, z_716, rfl⟩ := smX6 h_712
    obtain ⟨f_718, e_717⟩ := hm_698.arrI e_681
    have u_719 := ht_700 _ _ u_683
    obtain ⟨f_721, e_720⟩ := hm_698.arrI e_684
    have u_722 := ht_700 _ _ u_686
    have hsm := hsm.tr (hm_698.mono (by decide))
    have hlp_93 := hlp_93.tr (hm_698.mono (by decide))
    have htx := htx.tr ht_700
    obtain ⟨ts_723, te_724, cc_725, ra_726, rb_727, rc_728, rv_729, re_730, ya_731, h1_732, h2_733, h3_734, h4_735, er_736, et_737, ⟨k_738, c9_739, t_740, f_741, e_742, u_743⟩, ⟨k_744, c9_745, t_746, f_747, e_748, u_749⟩⟩ := id hx_699
    refine lv_istore_n (lv' := [(2, .int r_694), (3, .int 1), (5, .int 0), (4, .int (nI i_85)), (1, .int 0), (0, .ref rd)]) hx hb dX4_readEither_83 rfl hl (by decide) rfl (fun ls hl => ?_)
    refine lv_iload hx hb dX4_readEither_84 (lv_at hl 2 rfl) ?_
    refine lv_if_eq (tgt := 95) hx hb dX4_readEither_86 (by decide) (fun c_750 => ?_) (fun c_750 => absurd (by decide) c_750)
    refine lv_iinc (v := nI (i_85 + 1)) (lv' := [(4, .int (nI (i_85 + 1))), (2, .int r_694), (3, .int 1), (5, .int 0), (1, .int 0), (0, .ref rd)]) hx hb dX4_readEither_95 hl (k := 3) rfl (nI_add i_85 1) (by decide) rfl (fun ls hl => ?_)
    refine lv_goto (tgt := 11) hx hb dX4_readEither_98 (by decide) ?_
    exact ih_84 (i_85 + 1, r_694, 1) ws_696 _ _ ls (by show 400 - (i_85 + 1) < 400 - i_85; omega) ⟨hlp_93, (⟨ts_723, te_724, cc_725, ra_726, rb_727, rc_728, rv_729, re_730, ya_731, by omega, by omega, by omega, by omega, er_736, et_737, ⟨k_738, c9_739, t_740, f_741, e_742, u_743⟩, ⟨k_744, c9_745, t_746, f_747, e_748, u_749⟩⟩ : RS ws_696 ty_697 rd krd tp ktp cd bb tl), (show (i_85 + 1) ≤ 400 from by omega), (show r_694 = 0 ∨ r_694 = 1 from w_695), (show 1 = 0 ∨ 1 = 1 from Or.inr rfl)⟩ hP hD hS (lv_sub hl [0, 1, 2, 4, 5] rfl)
  refine lv_istore (lv' := [(5, .int 1), (4, .int (nI i_85)), (2, .int x_86), (3, .int y_87), (1, .int 0), (0, .ref rd)]) hx hb dX4_readEither_39 hl (by decide) rfl (fun ls hl => ?_)
  refine lv_iload hx hb dX4_readEither_41 (lv_at hl 0 rfl) ?_
  refine lv_if_ne (tgt := 56) hx hb dX4_readEither_43 (by decide) (fun c_751 => ?_) (fun c_751 => absurd c_751 (by decide))
  refine lv_iload_n hx hb dX4_readEither_56 rfl (lv_at hl 3 rfl) ?_
  refine lv_if_ne (tgt := 65) hx hb dX4_readEither_57 (by decide) (fun c_752 => ?_) (fun c_752 => ?_)
  · refine lv_iconst (v := 1) hx hb dX4_readEither_65 (by decide) ?_
    refine lv_goto (tgt := 70) hx hb dX4_readEither_66 (by decide) ?_
    refine lv_istore_n (lv' := [(3, .int 1), (5, .int 1), (4, .int (nI i_85)), (2, .int x_86), (1, .int 0), (0, .ref rd)]) hx hb dX4_readEither_70 rfl hl (by decide) rfl (fun ls hl => ?_)
    refine lv_aload_n hx hb dX4_readEither_71 rfl (lv_at hl 5 rfl) ?_
    refine va_get (D := D) (ci := 4) (v := .ref tp) (C := RX4) (T := TX4) (N := 8) hx hb hts hin4 hown hK hP krd e_341 rfl 0 (by decide) (hts (.fieldLink RX4 12 "HoneyHouse$RuleReader" "tape" "LHoneyHouse$Tape;") (List.mem_of_getElem? (i := 1) rfl)) (fun _ h9 => h9) rfl dX4_readEither_72 ?_
    have hFc := free_all hD hS hA
    refine va_callv (va_runV (As := []) (rest := []) ⟨hx, hb, hml, hown, hts⟩ (a_advance l D ws_336 ty_337 tp ktp tl te_116 ya_123 (nI ts_115) bb k_136 c9_137 t_138 f_347 H.size (by omega) (by omega) e_342 e_346 u_348) (cwV 0 hts gX4_readEither_X6_advance rfl rfl rfl (by decide +kernel) ⟨Nat.le_of_ble_eq_true rfl, Nat.le_of_ble_eq_true rfl⟩) ⟨fun a U g mk q => by obtain ⟨q0, q1, qP, qK, qD⟩ := q; exact ⟨q0, q1, qP, va_K.moved (u := U) (U := U.calling g mk a) (Vm.Alike.refl U.vm) qK, qD⟩, va_recv hK hP (ci := 6) (q0 := ktp) rfl e_342, fun U hU hW => ⟨rfl, by rw [hU], by rw [hU]; exact hP, va_K.moved hW.alike hK, hD.weaken (fun _ _ _ _ => trivial)⟩⟩ rfl rfl hl.1 rfl (lv_room (Nat.le_of_ble_eq_true rfl)) dX4_readEither_75 ⟨Nat.le_of_ble_eq_true rfl, Nat.le_of_ble_eq_true rfl⟩) hS (fun q _ h => hFc q h) hFc (fun u t H1 locs ht hvm w_754 hB hz1 hk1 hS => ?_)
    obtain ⟨ws_755, ty_756, hm_757, ht_759, hP1, hK1, hD1, hx_758⟩ := hB
    rw [ht] at hP1
    have hK := va_K.moved hvm.symm hK1
    have hD := hD1.weaken (fun _ _ _ h => hFc _ h)
    generalize H1 = H at hP1 hS ⊢
    have hP := hP1
    have e_760 := hm_757.objK e_341 (by decide)
    obtain ⟨g_762, e_761, h_763⟩ := hm_757.obj e_342
    obtain ⟨z_764, z_765, z_766, z_767, rfl⟩ := smX6 h_763
    obtain ⟨f_769, e_768⟩ := hm_757.arrI e_343
    have u_770 := ht_759 _ _ u_345
    obtain ⟨f_772, e_771⟩ := hm_757.arrI e_346
    have u_773 := ht_759 _ _ u_348
    have hsm := hsm.tr (hm_757.mono (by decide))
    have hlp_93 := hlp_93.tr (hm_757.mono (by decide))
    have htx := htx.tr ht_759
    obtain ⟨k_774, s_775, e_776, h_777, h_778, h_779, e_780⟩ := hx_758
    refine lv_aload_n hx hb dX4_readEither_78 rfl (lv_at hl 5 rfl) ?_
    refine lv_iload_n hx hb dX4_readEither_79 rfl (lv_at hl 4 rfl) ?_
    have hFc := free_all hD hS hA
    refine va_calli (va_runV (As := [.int 0]) (rest := []) ⟨hx, hb, hml, hown, hts⟩ (r_readOne0 l D ws_755 ty_756 adK adV fo rd krd tp ktp cd bb tl  H.size (⟨s_775, e_776, cc_117, ra_118, rb_119, rc_120, rv_121, re_122, nI k_774, by omega, by omega, by omega, by omega, e_760, e_780, ⟨k_130, c9_131, t_132, f_769, e_768, u_770⟩, ⟨k_136, c9_137, t_138, f_772, e_771, u_773⟩⟩ : RS ws_755 ty_756 rd krd tp ktp cd bb tl)) (cwV 1 hts gX4_readEither_X4_readOne rfl rfl rfl (by decide +kernel) ⟨Nat.le_of_ble_eq_true rfl, Nat.le_of_ble_eq_true rfl⟩) ⟨fun a U g mk q => by obtain ⟨q0, q1, qP, qK, qD, qS⟩ := q; exact ⟨q0, q1, qP, va_K.moved (u := U) (U := U.calling g mk a) (Vm.Alike.refl U.vm) qK, qD, SZ.same rfl rfl qS⟩, va_recv hK hP (ci := 4) (q0 := krd) rfl e_760, fun U hU hW => ⟨rfl, by rw [hU], by rw [hU]; exact hP, va_K.moved hW.alike hK, hD.weaken (fun _ _ _ _ => trivial), hsz9.go hS hW hU hFc⟩⟩ rfl rfl hl.1 rfl (lv_room (Nat.le_of_ble_eq_true rfl)) dX4_readEither_80 ⟨Nat.le_of_ble_eq_true rfl, Nat.le_of_ble_eq_true rfl⟩) hS (fun q _ h => hFc q h) hFc (fun r_781 u t H1 locs ht hvm w_782 hB hz1 hk1 hS => ?_)
    obtain ⟨ws_783, ty_784, hm_785, ht_787, hP1, hK1, hD1, hx_786⟩ := hB
    rw [ht] at hP1
    have hK := va_K.moved hvm.symm hK1
    have hD := hD1.weaken (fun _ _ _ h => hFc _ h)
    generalize H1 = H at hP1 hS ⊢
    have hP := hP1
    obtain ⟨g_789, e_788, h_790⟩ := hm_785.obj e_760
    obtain ⟨z_791, z_792, z_793, z_794, z_795, z_796, rfl⟩ := smX4 h_790
    obtain ⟨g_798, e_797, h_799⟩ := hm_785.obj e_780
    obtain ⟨z_800, z_801, z_802, z_803, rfl⟩ := smX6 h_799
    obtain ⟨f_805, e_804⟩ := hm_785.arrI e_768
    have u_806 := ht_787 _ _ u_770
    obtain ⟨f_808, e_807⟩ := hm_785.arrI e_771
    have u_809 := ht_787 _ _ u_773
    have hsm := hsm.tr (hm_785.mono (by decide))
    have hlp_93 := hlp_93.tr (hm_785.mono (by decide))
    have htx := htx.tr ht_787
    obtain ⟨ts_810, te_811, cc_812, ra_813, rb_814, rc_815, rv_816, re_817, ya_818, h1_819, h2_820, h3_821, h4_822, er_823, et_824, ⟨k_825, c9_826, t_827, f_828, e_829, u_830⟩, ⟨k_831, c9_832, t_833, f_834, e_835, u_836⟩⟩ := id hx_786
    refine lv_istore_n (lv' := [(2, .int r_781), (3, .int 1), (5, .int 1), (4, .int (nI i_85)), (1, .int 0), (0, .ref rd)]) hx hb dX4_readEither_83 rfl hl (by decide) rfl (fun ls hl => ?_)
    refine lv_iload hx hb dX4_readEither_84 (lv_at hl 2 rfl) ?_
    refine lv_if_eq (tgt := 95) hx hb dX4_readEither_86 (by decide) (fun c_837 => absurd c_837 (by decide)) (fun c_837 => ?_)
    refine lv_aload_n hx hb dX4_readEither_89 rfl (lv_at hl 5 rfl) ?_
    refine lv_bipush (v := (-2)) hx hb dX4_readEither_90 (by decide) ?_
    have hFc := free_all hD hS hA
    refine va_callv (va_runV (As := [.int (-2)]) (rest := []) ⟨hx, hb, hml, hown, hts⟩ (r_addCode l D ws_783 ty_784 adK adV fo rd krd tp ktp cd bb tl (-2) H.size (⟨ts_810, te_811, cc_812, ra_813, rb_814, rc_815, rv_816, re_817, ya_818, by omega, by omega, by omega, by omega, er_823, et_824, ⟨k_825, c9_826, t_827, f_828, e_829, u_830⟩, ⟨k_831, c9_832, t_833, f_834, e_835, u_836⟩⟩ : RS ws_783 ty_784 rd krd tp ktp cd bb tl)) (cwV 1 hts gX4_readEither_X4_addCode rfl rfl rfl (by decide +kernel) ⟨Nat.le_of_ble_eq_true rfl, Nat.le_of_ble_eq_true rfl⟩) ⟨fun a U g mk q => by obtain ⟨q0, q1, qP, qK, qD, qS⟩ := q; exact ⟨q0, q1, qP, va_K.moved (u := U) (U := U.calling g mk a) (Vm.Alike.refl U.vm) qK, qD, SZ.same rfl rfl qS⟩, va_recv hK hP (ci := 4) (q0 := krd) rfl er_823, fun U hU hW => ⟨rfl, by rw [hU], by rw [hU]; exact hP, va_K.moved hW.alike hK, hD.weaken (fun _ _ _ _ => trivial), hsz9.go hS hW hU hFc⟩⟩ rfl rfl hl.1 rfl (lv_room (Nat.le_of_ble_eq_true rfl)) dX4_readEither_92 ⟨Nat.le_of_ble_eq_true rfl, Nat.le_of_ble_eq_true rfl⟩) hS (fun q _ h => hFc q h) hFc (fun u t H1 locs ht hvm w_839 hB hz1 hk1 hS => ?_)
    obtain ⟨ws_840, ty_841, hm_842, ht_844, hP1, hK1, hD1, hx_843⟩ := hB
    rw [ht] at hP1
    have hK := va_K.moved hvm.symm hK1
    have hD := hD1.weaken (fun _ _ _ h => hFc _ h)
    generalize H1 = H at hP1 hS ⊢
    have hP := hP1
    obtain ⟨g_846, e_845, h_847⟩ := hm_842.obj er_823
    obtain ⟨z_848, z_849, z_850, z_851, z_852, z_853, rfl⟩ := smX4 h_847
    obtain ⟨g_855, e_854, h_856⟩ := hm_842.obj et_824
    obtain ⟨z_857, z_858, z_859, z_860, rfl⟩ := smX6 h_856
    obtain ⟨f_862, e_861⟩ := hm_842.arrI e_829
    have u_863 := ht_844 _ _ u_830
    obtain ⟨f_865, e_864⟩ := hm_842.arrI e_835
    have u_866 := ht_844 _ _ u_836
    have hsm := hsm.tr (hm_842.mono (by decide))
    have hlp_93 := hlp_93.tr (hm_842.mono (by decide))
    have htx := htx.tr ht_844
    obtain ⟨ts_867, te_868, cc_869, ra_870, rb_871, rc_872, rv_873, re_874, ya_875, h1_876, h2_877, h3_878, h4_879, er_880, et_881, ⟨k_882, c9_883, t_884, f_885, e_886, u_887⟩, ⟨k_888, c9_889, t_890, f_891, e_892, u_893⟩⟩ := id hx_843
    refine lv_iinc (v := nI (i_85 + 1)) (lv' := [(4, .int (nI (i_85 + 1))), (2, .int r_781), (3, .int 1), (5, .int 1), (1, .int 0), (0, .ref rd)]) hx hb dX4_readEither_95 hl (k := 3) rfl (nI_add i_85 1) (by decide) rfl (fun ls hl => ?_)
    refine lv_goto (tgt := 11) hx hb dX4_readEither_98 (by decide) ?_
    exact ih_84 (i_85 + 1, r_781, 1) ws_840 _ _ ls (by show 400 - (i_85 + 1) < 400 - i_85; omega) ⟨hlp_93, (⟨ts_867, te_868, cc_869, ra_870, rb_871, rc_872, rv_873, re_874, ya_875, by omega, by omega, by omega, by omega, er_880, et_881, ⟨k_882, c9_883, t_884, f_885, e_886, u_887⟩, ⟨k_888, c9_889, t_890, f_891, e_892, u_893⟩⟩ : RS ws_840 ty_841 rd krd tp ktp cd bb tl), (show (i_85 + 1) ≤ 400 from by omega), (show r_781 = 0 ∨ r_781 = 1 from w_782), (show 1 = 0 ∨ 1 = 1 from Or.inr rfl)⟩ hP hD hS (lv_sub hl [0, 1, 2, 4, 5] rfl)
  refine lv_iload hx hb dX4_readEither_60 (lv_at hl 0 rfl) ?_
  refine lv_if_ne (tgt := 69) hx hb dX4_readEither_62 (by decide) (fun c_894 => ?_) (fun c_894 => absurd c_894 (by decide))
  refine lv_iconst (v := 0) hx hb dX4_readEither_69 (by decide) ?_
  refine lv_istore_n (lv' := [(3, .int 0), (5, .int 1), (4, .int (nI i_85)), (2, .int x_86), (1, .int 0), (0, .ref rd)]) hx hb dX4_readEither_70 rfl hl (by decide) rfl (fun ls hl => ?_)
  refine lv_aload_n hx hb dX4_readEither_71 rfl (lv_at hl 5 rfl) ?_
  refine va_get (D := D) (ci := 4) (v := .ref tp) (C := RX4) (T := TX4) (N := 8) hx hb hts hin4 hown hK hP krd e_341 rfl 0 (by decide) (hts (.fieldLink RX4 12 "HoneyHouse$RuleReader" "tape" "LHoneyHouse$Tape;") (List.mem_of_getElem? (i := 1) rfl)) (fun _ h9 => h9) rfl dX4_readEither_72 ?_
  have hFc := free_all hD hS hA
  refine va_callv (va_runV (As := []) (rest := []) ⟨hx, hb, hml, hown, hts⟩ (a_advance l D ws_336 ty_337 tp ktp tl te_116 ya_123 (nI ts_115) bb k_136 c9_137 t_138 f_347 H.size (by omega) (by omega) e_342 e_346 u_348) (cwV 0 hts gX4_readEither_X6_advance rfl rfl rfl (by decide +kernel) ⟨Nat.le_of_ble_eq_true rfl, Nat.le_of_ble_eq_true rfl⟩) ⟨fun a U g mk q => by obtain ⟨q0, q1, qP, qK, qD⟩ := q; exact ⟨q0, q1, qP, va_K.moved (u := U) (U := U.calling g mk a) (Vm.Alike.refl U.vm) qK, qD⟩, va_recv hK hP (ci := 6) (q0 := ktp) rfl e_342, fun U hU hW => ⟨rfl, by rw [hU], by rw [hU]; exact hP, va_K.moved hW.alike hK, hD.weaken (fun _ _ _ _ => trivial)⟩⟩ rfl rfl hl.1 rfl (lv_room (Nat.le_of_ble_eq_true rfl)) dX4_readEither_75 ⟨Nat.le_of_ble_eq_true rfl, Nat.le_of_ble_eq_true rfl⟩) hS (fun q _ h => hFc q h) hFc (fun u t H1 locs ht hvm w_896 hB hz1 hk1 hS => ?_)
  obtain ⟨ws_897, ty_898, hm_899, ht_901, hP1, hK1, hD1, hx_900⟩ := hB
  rw [ht] at hP1
  have hK := va_K.moved hvm.symm hK1
  have hD := hD1.weaken (fun _ _ _ h => hFc _ h)
  generalize H1 = H at hP1 hS ⊢
  have hP := hP1
  have e_902 := hm_899.objK e_341 (by decide)
  obtain ⟨g_904, e_903, h_905⟩ := hm_899.obj e_342
  obtain ⟨z_906, z_907, z_908, z_909, rfl⟩ := smX6 h_905
  obtain ⟨f_911, e_910⟩ := hm_899.arrI e_343
  have u_912 := ht_901 _ _ u_345
  obtain ⟨f_914, e_913⟩ := hm_899.arrI e_346
  have u_915 := ht_901 _ _ u_348
  have hsm := hsm.tr (hm_899.mono (by decide))
  have hlp_93 := hlp_93.tr (hm_899.mono (by decide))
  have htx := htx.tr ht_901
  obtain ⟨k_916, s_917, e_918, h_919, h_920, h_921, e_922⟩ := hx_900
  refine lv_aload_n hx hb dX4_readEither_78 rfl (lv_at hl 5 rfl) ?_
  refine lv_iload_n hx hb dX4_readEither_79 rfl (lv_at hl 4 rfl) ?_
  have hFc := free_all hD hS hA
  refine va_calli (va_runV (As := [.int 0]) (rest := []) ⟨hx, hb, hml, hown, hts⟩ (r_readOne0 l D ws_897 ty_898 adK adV fo rd krd tp ktp cd bb tl  H.size (⟨s_917, e_918, cc_117, ra_118, rb_119, rc_120, rv_121, re_122, nI k_916, by omega, by omega, by omega, by omega, e_902, e_922, ⟨k_130, c9_131, t_132, f_911, e_910, u_912⟩, ⟨k_136, c9_137, t_138, f_914, e_913, u_915⟩⟩ : RS ws_897 ty_898 rd krd tp ktp cd bb tl)) (cwV 1 hts gX4_readEither_X4_readOne rfl rfl rfl (by decide +kernel) ⟨Nat.le_of_ble_eq_true rfl, Nat.le_of_ble_eq_true rfl⟩) ⟨fun a U g mk q => by obtain ⟨q0, q1, qP, qK, qD, qS⟩ := q; exact ⟨q0, q1, qP, va_K.moved (u := U) (U := U.calling g mk a) (Vm.Alike.refl U.vm) qK, qD, SZ.same rfl rfl qS⟩, va_recv hK hP (ci := 4) (q0 := krd) rfl e_902, fun U hU hW => ⟨rfl, by rw [hU], by rw [hU]; exact hP, va_K.moved hW.alike hK, hD.weaken (fun _ _ _ _ => trivial), hsz9.go hS hW hU hFc⟩⟩ rfl rfl hl.1 rfl (lv_room (Nat.le_of_ble_eq_true rfl)) dX4_readEither_80 ⟨Nat.le_of_ble_eq_true rfl, Nat.le_of_ble_eq_true rfl⟩) hS (fun q _ h => hFc q h) hFc (fun r_923 u t H1 locs ht hvm w_924 hB hz1 hk1 hS => ?_)
  obtain ⟨ws_925, ty_926, hm_927, ht_929, hP1, hK1, hD1, hx_928⟩ := hB
  rw [ht] at hP1
  have hK := va_K.moved hvm.symm hK1
  have hD := hD1.weaken (fun _ _ _ h => hFc _ h)
  generalize H1 = H at hP1 hS ⊢
  have hP := hP1
  obtain ⟨g_931, e_930, h_932⟩ := hm_927.obj e_902
  obtain ⟨z_933, z_934, z_935, z_936, z_937, z_938, rfl⟩ := smX4 h_932
  obtain ⟨g_940, e_939, h_941⟩ := hm_927.obj e_922
  obtain ⟨z_942, z_943, z_944, z_945, rfl⟩ := smX6 h_941
  obtain ⟨f_947, e_946⟩ := hm_927.arrI e_910
  have u_948 := ht_929 _ _ u_912
  obtain ⟨f_950, e_949⟩ := hm_927.arrI e_913
  have u_951 := ht_929 _ _ u_915
  have hsm := hsm.tr (hm_927.mono (by decide))
  have hlp_93 := hlp_93.tr (hm_927.mono (by decide))
  have htx := htx.tr ht_929
  obtain ⟨ts_952, te_953, cc_954, ra_955, rb_956, rc_957, rv_958, re_959, ya_960, h1_961, h2_962, h3_963, h4_964, er_965, et_966, ⟨k_967, c9_968, t_969, f_970, e_971, u_972⟩, ⟨k_973, c9_974, t_975, f_976, e_977, u_978⟩⟩ := id hx_928
  refine lv_istore_n (lv' := [(2, .int r_923), (3, .int 0), (5, .int 1), (4, .int (nI i_85)), (1, .int 0), (0, .ref rd)]) hx hb dX4_readEither_83 rfl hl (by decide) rfl (fun ls hl => ?_)
  refine lv_iload hx hb dX4_readEither_84 (lv_at hl 2 rfl) ?_
  refine lv_if_eq (tgt := 95) hx hb dX4_readEither_86 (by decide) (fun c_979 => absurd c_979 (by decide)) (fun c_979 => ?_)
  refine lv_aload_n hx hb dX4_readEither_89 rfl (lv_at hl 5 rfl) ?_
  refine lv_bipush (v := (-2)) hx hb dX4_readEither_90 (by decide) ?_
  have hFc := free_all hD hS hA
  refine va_callv (va_runV (As := [.int (-2)]) (rest := []) ⟨hx, hb, hml, hown, hts⟩ (r_addCode l D ws_925 ty_926 adK adV fo rd krd tp ktp cd bb tl (-2) H.size (⟨ts_952, te_953, cc_954, ra_955, rb_956, rc_957, rv_958, re_959, ya_960, by omega, by omega, by omega, by omega, er_965, et_966, ⟨k_967, c9_968, t_969, f_970, e_971, u_972⟩, ⟨k_973, c9_974, t_975, f_976, e_977, u_978⟩⟩ : RS ws_925 ty_926 rd krd tp ktp cd bb tl)) (cwV 1 hts gX4_readEither_X4_addCode rfl rfl rfl (by decide +kernel) ⟨Nat.le_of_ble_eq_true rfl, Nat.le_of_ble_eq_true rfl⟩) ⟨fun a U g mk q => by obtain ⟨q0, q1, qP, qK, qD, qS⟩ := q; exact ⟨q0, q1, qP, va_K.moved (u := U) (U := U.calling g mk a) (Vm.Alike.refl U.vm) qK, qD, SZ.same rfl rfl qS⟩, va_recv hK hP (ci := 4) (q0 := krd) rfl er_965, fun U hU hW => ⟨rfl, by rw [hU], by rw [hU]; exact hP, va_K.moved hW.alike hK, hD.weaken (fun _ _ _ _ => trivial), hsz9.go hS hW hU hFc⟩⟩ rfl rfl hl.1 rfl (lv_room (Nat.le_of_ble_eq_true rfl)) dX4_readEither_92 ⟨Nat.le_of_ble_eq_true rfl, Nat.le_of_ble_eq_true rfl⟩) hS (fun q _ h => hFc q h) hFc (fun u t H1 locs ht hvm w_981 hB hz1 hk1 hS => ?_)
  obtain ⟨ws_982, ty_983, hm_984, ht_986, hP1, hK1, hD1, hx_985⟩ := hB
  rw [ht] at hP1
  have hK := va_K.moved hvm.symm hK1
  have hD := hD1.weaken (fun _ _ _ h => hFc _ h)
  generalize H1 = H at hP1 hS ⊢
  have hP := hP1
  obtain ⟨g_988, e_987, h_989⟩ := hm_984.obj er_965
  obtain ⟨z_990, z_991, z_992, z_993, z_994, z_995, rfl⟩ := smX4 h_989
  obtain ⟨g_997, e_996, h_998⟩ := hm_984.obj et_966
  obtain ⟨z_999, z_1000, z_1001, z_1002, rfl⟩ := smX6 h_998
  obtain ⟨f_1004, e_1003⟩ := hm_984.arrI e_971
  have u_1005 := ht_986 _ _ u_972
  obtain ⟨f_1007, e_1006⟩ := hm_984.arrI e_977
  have u_1008 := ht_986 _ _ u_978
  have hsm := hsm.tr (hm_984.mono (by decide))
  have hlp_93 := hlp_93.tr (hm_984.mono (by decide))
  have htx := htx.tr ht_986
  obtain ⟨ts_1009, te_1010, cc_1011, ra_1012, rb_1013, rc_1014, rv_1015, re_1016, ya_1017, h1_1018, h2_1019, h3_1020, h4_1021, er_1022, et_1023, ⟨k_1024, c9_1025, t_1026, f_1027, e_1028, u_1029⟩, ⟨k_1030, c9_1031, t_1032, f_1033, e_1034, u_1035⟩⟩ := id hx_985
  refine lv_iinc (v := nI (i_85 + 1)) (lv' := [(4, .int (nI (i_85 + 1))), (2, .int r_923), (3, .int 0), (5, .int 1), (1, .int 0), (0, .ref rd)]) hx hb dX4_readEither_95 hl (k := 3) rfl (nI_add i_85 1) (by decide) rfl (fun ls hl => ?_)
  refine lv_goto (tgt := 11) hx hb dX4_readEither_98 (by decide) ?_
  exact ih_84 (i_85 + 1, r_923, 0) ws_982 _ _ ls (by show 400 - (i_85 + 1) < 400 - i_85; omega) ⟨hlp_93, (⟨ts_1009, te_1010, cc_1011, ra_1012, rb_1013, rc_1014, rv_1015, re_1016, ya_1017, by omega, by omega, by omega, by omega, er_1022, et_1023, ⟨k_1024, c9_1025, t_1026, f_1027, e_1028, u_1029⟩, ⟨k_1030, c9_1031, t_1032, f_1033, e_1034, u_1035⟩⟩ : RS ws_982 ty_983 rd krd tp ktp cd bb tl), (show (i_85 + 1) ≤ 400 from by omega), (show r_923 = 0 ∨ r_923 = 1 from w_924), (show 0 = 0 ∨ 0 = 1 from Or.inl rfl)⟩ hP hD hS (lv_sub hl [0, 1, 2, 4, 5] rfl)
