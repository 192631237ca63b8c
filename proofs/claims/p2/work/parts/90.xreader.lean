theorem dX4_failAt_0 : decode cX4_failAt 0 = .ok (.aload_n 0, 1) := by decide +kernel
theorem dX4_failAt_1 : decode cX4_failAt 1 = .ok (.iload_n 1, 1) := by decide +kernel
theorem dX4_failAt_2 : decode cX4_failAt 2 = .ok (.putfield 26, 3) := by decide +kernel
theorem dX4_failAt_5 : decode cX4_failAt 5 = .ok (.aload_n 0, 1) := by decide +kernel
theorem dX4_failAt_6 : decode cX4_failAt 6 = .ok (.iload_n 2, 1) := by decide +kernel
theorem dX4_failAt_7 : decode cX4_failAt 7 = .ok (.putfield 18, 3) := by decide +kernel
theorem dX4_failAt_10 : decode cX4_failAt 10 = .ok (.iconst 0, 1) := by decide +kernel
theorem dX4_failAt_11 : decode cX4_failAt 11 = .ok (.ireturn, 1) := by decide +kernel
theorem dX4_failHere_0 : decode cX4_failHere 0 = .ok (.aload_n 0, 1) := by decide +kernel
theorem dX4_failHere_1 : decode cX4_failHere 1 = .ok (.iconst 1, 1) := by decide +kernel
theorem dX4_failHere_2 : decode cX4_failHere 2 = .ok (.aload_n 0, 1) := by decide +kernel
theorem dX4_failHere_3 : decode cX4_failHere 3 = .ok (.getfield 12, 3) := by decide +kernel
theorem dX4_failHere_6 : decode cX4_failHere 6 = .ok (.getfield 73, 3) := by decide +kernel
theorem dX4_failHere_9 : decode cX4_failHere 9 = .ok (.invokevirtual 76, 3) := by decide +kernel
theorem dX4_failHere_12 : decode cX4_failHere 12 = .ok (.ireturn, 1) := by decide +kernel
theorem dX4_measureNamed_0 : decode cX4_measureNamed 0 = .ok (.aload_n 0, 1) := by decide +kernel
theorem dX4_measureNamed_1 : decode cX4_measureNamed 1 = .ok (.getfield 12, 3) := by decide +kernel
theorem dX4_measureNamed_4 : decode cX4_measureNamed 4 = .ok (.ldc 137, 2) := by decide +kernel
theorem dX4_measureNamed_6 : decode cX4_measureNamed 6 = .ok (.invokevirtual 99, 3) := by decide +kernel
theorem dX4_measureNamed_9 : decode cX4_measureNamed 9 = .ok (.ifCond .eq 5, 3) := by decide +kernel
theorem dX4_measureNamed_12 : decode cX4_measureNamed 12 = .ok (.iconst 0, 1) := by decide +kernel
theorem dX4_measureNamed_13 : decode cX4_measureNamed 13 = .ok (.ireturn, 1) := by decide +kernel
theorem dX4_measureNamed_14 : decode cX4_measureNamed 14 = .ok (.aload_n 0, 1) := by decide +kernel
theorem dX4_measureNamed_15 : decode cX4_measureNamed 15 = .ok (.getfield 12, 3) := by decide +kernel
theorem dX4_measureNamed_18 : decode cX4_measureNamed 18 = .ok (.ldc 139, 2) := by decide +kernel
theorem dX4_measureNamed_20 : decode cX4_measureNamed 20 = .ok (.invokevirtual 99, 3) := by decide +kernel
theorem dX4_measureNamed_23 : decode cX4_measureNamed 23 = .ok (.ifCond .eq 5, 3) := by decide +kernel
theorem dX4_measureNamed_26 : decode cX4_measureNamed 26 = .ok (.iconst 1, 1) := by decide +kernel
theorem dX4_measureNamed_27 : decode cX4_measureNamed 27 = .ok (.ireturn, 1) := by decide +kernel
theorem dX4_measureNamed_28 : decode cX4_measureNamed 28 = .ok (.aload_n 0, 1) := by decide +kernel
theorem dX4_measureNamed_29 : decode cX4_measureNamed 29 = .ok (.getfield 12, 3) := by decide +kernel
theorem dX4_measureNamed_32 : decode cX4_measureNamed 32 = .ok (.ldc 141, 2) := by decide +kernel
theorem dX4_measureNamed_34 : decode cX4_measureNamed 34 = .ok (.invokevirtual 99, 3) := by decide +kernel
theorem dX4_measureNamed_37 : decode cX4_measureNamed 37 = .ok (.ifCond .eq 5, 3) := by decide +kernel
theorem dX4_measureNamed_40 : decode cX4_measureNamed 40 = .ok (.iconst 2, 1) := by decide +kernel
theorem dX4_measureNamed_41 : decode cX4_measureNamed 41 = .ok (.ireturn, 1) := by decide +kernel
theorem dX4_measureNamed_42 : decode cX4_measureNamed 42 = .ok (.aload_n 0, 1) := by decide +kernel
theorem dX4_measureNamed_43 : decode cX4_measureNamed 43 = .ok (.getfield 12, 3) := by decide +kernel
theorem dX4_measureNamed_46 : decode cX4_measureNamed 46 = .ok (.ldc 143, 2) := by decide +kernel
theorem dX4_measureNamed_48 : decode cX4_measureNamed 48 = .ok (.invokevirtual 99, 3) := by decide +kernel
theorem dX4_measureNamed_51 : decode cX4_measureNamed 51 = .ok (.ifCond .eq 6, 3) := by decide +kernel
theorem dX4_measureNamed_54 : decode cX4_measureNamed 54 = .ok (.bipush 10, 2) := by decide +kernel
theorem dX4_measureNamed_56 : decode cX4_measureNamed 56 = .ok (.ireturn, 1) := by decide +kernel
theorem dX4_measureNamed_57 : decode cX4_measureNamed 57 = .ok (.aload_n 0, 1) := by decide +kernel
theorem dX4_measureNamed_58 : decode cX4_measureNamed 58 = .ok (.getfield 12, 3) := by decide +kernel
theorem dX4_measureNamed_61 : decode cX4_measureNamed 61 = .ok (.ldc 145, 2) := by decide +kernel
theorem dX4_measureNamed_63 : decode cX4_measureNamed 63 = .ok (.invokevirtual 99, 3) := by decide +kernel
theorem dX4_measureNamed_66 : decode cX4_measureNamed 66 = .ok (.ifCond .eq 8, 3) := by decide +kernel
theorem dX4_measureNamed_69 : decode cX4_measureNamed 69 = .ok (.bipush 30, 2) := by decide +kernel
theorem dX4_measureNamed_71 : decode cX4_measureNamed 71 = .ok (.goto 4, 3) := by decide +kernel
theorem dX4_measureNamed_74 : decode cX4_measureNamed 74 = .ok (.iconst (-1), 1) := by decide +kernel
theorem dX4_measureNamed_75 : decode cX4_measureNamed 75 = .ok (.ireturn, 1) := by decide +kernel
theorem dX4_isAndOr_0 : decode cX4_isAndOr 0 = .ok (.aload_n 0, 1) := by decide +kernel
theorem dX4_isAndOr_1 : decode cX4_isAndOr 1 = .ok (.getfield 12, 3) := by decide +kernel
theorem dX4_isAndOr_4 : decode cX4_isAndOr 4 = .ok (.ldc 102, 2) := by decide +kernel
theorem dX4_isAndOr_6 : decode cX4_isAndOr 6 = .ok (.invokevirtual 99, 3) := by decide +kernel
theorem dX4_isAndOr_9 : decode cX4_isAndOr 9 = .ok (.ifCond .ne 15, 3) := by decide +kernel
theorem dX4_isAndOr_12 : decode cX4_isAndOr 12 = .ok (.aload_n 0, 1) := by decide +kernel
theorem dX4_isAndOr_13 : decode cX4_isAndOr 13 = .ok (.getfield 12, 3) := by decide +kernel
theorem dX4_isAndOr_16 : decode cX4_isAndOr 16 = .ok (.ldc 97, 2) := by decide +kernel
theorem dX4_isAndOr_18 : decode cX4_isAndOr 18 = .ok (.invokevirtual 99, 3) := by decide +kernel
theorem dX4_isAndOr_21 : decode cX4_isAndOr 21 = .ok (.ifCond .eq 7, 3) := by decide +kernel
theorem dX4_isAndOr_24 : decode cX4_isAndOr 24 = .ok (.iconst 1, 1) := by decide +kernel
theorem dX4_isAndOr_25 : decode cX4_isAndOr 25 = .ok (.goto 4, 3) := by decide +kernel
theorem dX4_isAndOr_28 : decode cX4_isAndOr 28 = .ok (.iconst 0, 1) := by decide +kernel
theorem dX4_isAndOr_29 : decode cX4_isAndOr 29 = .ok (.ireturn, 1) := by decide +kernel
theorem dX4_isKeptWord_0 : decode cX4_isKeptWord 0 = .ok (.aload_n 0, 1) := by decide +kernel
theorem dX4_isKeptWord_1 : decode cX4_isKeptWord 1 = .ok (.getfield 12, 3) := by decide +kernel
theorem dX4_isKeptWord_4 : decode cX4_isKeptWord 4 = .ok (.ldc 97, 2) := by decide +kernel
theorem dX4_isKeptWord_6 : decode cX4_isKeptWord 6 = .ok (.invokevirtual 99, 3) := by decide +kernel
theorem dX4_isKeptWord_9 : decode cX4_isKeptWord 9 = .ok (.ifCond .ne 71, 3) := by decide +kernel
theorem dX4_isKeptWord_12 : decode cX4_isKeptWord 12 = .ok (.aload_n 0, 1) := by decide +kernel
theorem dX4_isKeptWord_13 : decode cX4_isKeptWord 13 = .ok (.getfield 12, 3) := by decide +kernel
theorem dX4_isKeptWord_16 : decode cX4_isKeptWord 16 = .ok (.ldc 102, 2) := by decide +kernel
theorem dX4_isKeptWord_18 : decode cX4_isKeptWord 18 = .ok (.invokevirtual 99, 3) := by decide +kernel
theorem dX4_isKeptWord_21 : decode cX4_isKeptWord 21 = .ok (.ifCond .ne 59, 3) := by decide +kernel
theorem dX4_isKeptWord_24 : decode cX4_isKeptWord 24 = .ok (.aload_n 0, 1) := by decide +kernel
theorem dX4_isKeptWord_25 : decode cX4_isKeptWord 25 = .ok (.getfield 12, 3) := by decide +kernel
theorem dX4_isKeptWord_28 : decode cX4_isKeptWord 28 = .ok (.ldc 104, 2) := by decide +kernel
theorem dX4_isKeptWord_30 : decode cX4_isKeptWord 30 = .ok (.invokevirtual 99, 3) := by decide +kernel
theorem dX4_isKeptWord_33 : decode cX4_isKeptWord 33 = .ok (.ifCond .ne 47, 3) := by decide +kernel
theorem dX4_isKeptWord_36 : decode cX4_isKeptWord 36 = .ok (.aload_n 0, 1) := by decide +kernel
theorem dX4_isKeptWord_37 : decode cX4_isKeptWord 37 = .ok (.getfield 12, 3) := by decide +kernel
theorem dX4_isKeptWord_40 : decode cX4_isKeptWord 40 = .ok (.ldc 106, 2) := by decide +kernel
theorem dX4_isKeptWord_42 : decode cX4_isKeptWord 42 = .ok (.invokevirtual 99, 3) := by decide +kernel
theorem dX4_isKeptWord_45 : decode cX4_isKeptWord 45 = .ok (.ifCond .ne 35, 3) := by decide +kernel
theorem dX4_isKeptWord_48 : decode cX4_isKeptWord 48 = .ok (.aload_n 0, 1) := by decide +kernel
theorem dX4_isKeptWord_49 : decode cX4_isKeptWord 49 = .ok (.getfield 12, 3) := by decide +kernel
theorem dX4_isKeptWord_52 : decode cX4_isKeptWord 52 = .ok (.ldc 108, 2) := by decide +kernel
theorem dX4_isKeptWord_54 : decode cX4_isKeptWord 54 = .ok (.invokevirtual 99, 3) := by decide +kernel
theorem dX4_isKeptWord_57 : decode cX4_isKeptWord 57 = .ok (.ifCond .ne 23, 3) := by decide +kernel
theorem dX4_isKeptWord_60 : decode cX4_isKeptWord 60 = .ok (.aload_n 0, 1) := by decide +kernel
theorem dX4_isKeptWord_61 : decode cX4_isKeptWord 61 = .ok (.getfield 12, 3) := by decide +kernel
theorem dX4_isKeptWord_64 : decode cX4_isKeptWord 64 = .ok (.ldc 47, 2) := by decide +kernel
theorem dX4_isKeptWord_66 : decode cX4_isKeptWord 66 = .ok (.invokevirtual 99, 3) := by decide +kernel
theorem dX4_isKeptWord_69 : decode cX4_isKeptWord 69 = .ok (.ifCond .ne 11, 3) := by decide +kernel
theorem dX4_isKeptWord_72 : decode cX4_isKeptWord 72 = .ok (.aload_n 0, 1) := by decide +kernel
theorem dX4_isKeptWord_73 : decode cX4_isKeptWord 73 = .ok (.invokevirtual 110, 3) := by decide +kernel
theorem dX4_isKeptWord_76 : decode cX4_isKeptWord 76 = .ok (.iconst (-1), 1) := by decide +kernel
theorem dX4_isKeptWord_77 : decode cX4_isKeptWord 77 = .ok (.if_icmp .eq 7, 3) := by decide +kernel
theorem dX4_isKeptWord_80 : decode cX4_isKeptWord 80 = .ok (.iconst 1, 1) := by decide +kernel
theorem dX4_isKeptWord_81 : decode cX4_isKeptWord 81 = .ok (.goto 4, 3) := by decide +kernel
theorem dX4_isKeptWord_84 : decode cX4_isKeptWord 84 = .ok (.iconst 0, 1) := by decide +kernel
theorem dX4_isKeptWord_85 : decode cX4_isKeptWord 85 = .ok (.ireturn, 1) := by decide +kernel
theorem dX4_readByte_0 : decode cX4_readByte 0 = .ok (.aload_n 0, 1) := by decide +kernel
theorem dX4_readByte_1 : decode cX4_readByte 1 = .ok (.getfield 12, 3) := by decide +kernel
theorem dX4_readByte_4 : decode cX4_readByte 4 = .ok (.iload_n 1, 1) := by decide +kernel
theorem dX4_readByte_5 : decode cX4_readByte 5 = .ok (.invokevirtual 114, 3) := by decide +kernel
theorem dX4_readByte_8 : decode cX4_readByte 8 = .ok (.ifCond .ne 8, 3) := by decide +kernel
theorem dX4_readByte_11 : decode cX4_readByte 11 = .ok (.aload_n 0, 1) := by decide +kernel
theorem dX4_readByte_12 : decode cX4_readByte 12 = .ok (.invokevirtual 64, 3) := by decide +kernel
theorem dX4_readByte_15 : decode cX4_readByte 15 = .ok (.ireturn, 1) := by decide +kernel
theorem dX4_readByte_16 : decode cX4_readByte 16 = .ok (.aload_n 0, 1) := by decide +kernel
theorem dX4_readByte_17 : decode cX4_readByte 17 = .ok (.getfield 12, 3) := by decide +kernel
theorem dX4_readByte_20 : decode cX4_readByte 20 = .ok (.invokevirtual 94, 3) := by decide +kernel
theorem dX4_readByte_23 : decode cX4_readByte 23 = .ok (.iconst 1, 1) := by decide +kernel
theorem dX4_readByte_24 : decode cX4_readByte 24 = .ok (.ireturn, 1) := by decide +kernel
theorem dX4_readWord_0 : decode cX4_readWord 0 = .ok (.aload_n 0, 1) := by decide +kernel
theorem dX4_readWord_1 : decode cX4_readWord 1 = .ok (.getfield 12, 3) := by decide +kernel
theorem dX4_readWord_4 : decode cX4_readWord 4 = .ok (.aload_n 1, 1) := by decide +kernel
theorem dX4_readWord_5 : decode cX4_readWord 5 = .ok (.invokevirtual 99, 3) := by decide +kernel
theorem dX4_readWord_8 : decode cX4_readWord 8 = .ok (.ifCond .ne 8, 3) := by decide +kernel
theorem dX4_readWord_11 : decode cX4_readWord 11 = .ok (.aload_n 0, 1) := by decide +kernel
theorem dX4_readWord_12 : decode cX4_readWord 12 = .ok (.invokevirtual 64, 3) := by decide +kernel
theorem dX4_readWord_15 : decode cX4_readWord 15 = .ok (.ireturn, 1) := by decide +kernel
theorem dX4_readWord_16 : decode cX4_readWord 16 = .ok (.aload_n 0, 1) := by decide +kernel
theorem dX4_readWord_17 : decode cX4_readWord 17 = .ok (.getfield 12, 3) := by decide +kernel
theorem dX4_readWord_20 : decode cX4_readWord 20 = .ok (.invokevirtual 94, 3) := by decide +kernel
theorem dX4_readWord_23 : decode cX4_readWord 23 = .ok (.iconst 1, 1) := by decide +kernel
theorem dX4_readWord_24 : decode cX4_readWord 24 = .ok (.ireturn, 1) := by decide +kernel
theorem dX4_readNumber_0 : decode cX4_readNumber 0 = .ok (.aload_n 0, 1) := by decide +kernel
theorem dX4_readNumber_1 : decode cX4_readNumber 1 = .ok (.getfield 12, 3) := by decide +kernel
theorem dX4_readNumber_4 : decode cX4_readNumber 4 = .ok (.getfield 61, 3) := by decide +kernel
theorem dX4_readNumber_7 : decode cX4_readNumber 7 = .ok (.iconst 2, 1) := by decide +kernel
theorem dX4_readNumber_8 : decode cX4_readNumber 8 = .ok (.if_icmp .eq 8, 3) := by decide +kernel
theorem dX4_readNumber_11 : decode cX4_readNumber 11 = .ok (.aload_n 0, 1) := by decide +kernel
theorem dX4_readNumber_12 : decode cX4_readNumber 12 = .ok (.invokevirtual 64, 3) := by decide +kernel
theorem dX4_readNumber_15 : decode cX4_readNumber 15 = .ok (.ireturn, 1) := by decide +kernel
theorem dX4_readNumber_16 : decode cX4_readNumber 16 = .ok (.aload_n 0, 1) := by decide +kernel
theorem dX4_readNumber_17 : decode cX4_readNumber 17 = .ok (.getfield 12, 3) := by decide +kernel
theorem dX4_readNumber_20 : decode cX4_readNumber 20 = .ok (.getfield 83, 3) := by decide +kernel
theorem dX4_readNumber_23 : decode cX4_readNumber 23 = .ok (.aload_n 0, 1) := by decide +kernel
theorem dX4_readNumber_24 : decode cX4_readNumber 24 = .ok (.getfield 12, 3) := by decide +kernel
theorem dX4_readNumber_27 : decode cX4_readNumber 27 = .ok (.getfield 73, 3) := by decide +kernel
theorem dX4_readNumber_30 : decode cX4_readNumber 30 = .ok (.isub, 1) := by decide +kernel
theorem dX4_readNumber_31 : decode cX4_readNumber 31 = .ok (.iconst 5, 1) := by decide +kernel
theorem dX4_readNumber_32 : decode cX4_readNumber 32 = .ok (.if_icmp .le 18, 3) := by decide +kernel
theorem dX4_readNumber_35 : decode cX4_readNumber 35 = .ok (.aload_n 0, 1) := by decide +kernel
theorem dX4_readNumber_36 : decode cX4_readNumber 36 = .ok (.iconst 1, 1) := by decide +kernel
theorem dX4_readNumber_37 : decode cX4_readNumber 37 = .ok (.aload_n 0, 1) := by decide +kernel
theorem dX4_readNumber_38 : decode cX4_readNumber 38 = .ok (.getfield 12, 3) := by decide +kernel
theorem dX4_readNumber_41 : decode cX4_readNumber 41 = .ok (.getfield 73, 3) := by decide +kernel
theorem dX4_readNumber_44 : decode cX4_readNumber 44 = .ok (.iconst 5, 1) := by decide +kernel
theorem dX4_readNumber_45 : decode cX4_readNumber 45 = .ok (.iadd, 1) := by decide +kernel
theorem dX4_readNumber_46 : decode cX4_readNumber 46 = .ok (.invokevirtual 76, 3) := by decide +kernel
theorem dX4_readNumber_49 : decode cX4_readNumber 49 = .ok (.ireturn, 1) := by decide +kernel
theorem dX4_readNumber_50 : decode cX4_readNumber 50 = .ok (.aload_n 0, 1) := by decide +kernel
theorem dX4_readNumber_51 : decode cX4_readNumber 51 = .ok (.aload_n 0, 1) := by decide +kernel
theorem dX4_readNumber_52 : decode cX4_readNumber 52 = .ok (.getfield 12, 3) := by decide +kernel
theorem dX4_readNumber_55 : decode cX4_readNumber 55 = .ok (.invokevirtual 117, 3) := by decide +kernel
theorem dX4_readNumber_58 : decode cX4_readNumber 58 = .ok (.putfield 56, 3) := by decide +kernel
theorem dX4_readNumber_61 : decode cX4_readNumber 61 = .ok (.aload_n 0, 1) := by decide +kernel
theorem dX4_readNumber_62 : decode cX4_readNumber 62 = .ok (.getfield 56, 3) := by decide +kernel
theorem dX4_readNumber_65 : decode cX4_readNumber 65 = .ok (.iload_n 1, 1) := by decide +kernel
theorem dX4_readNumber_66 : decode cX4_readNumber 66 = .ok (.if_icmp .le 16, 3) := by decide +kernel
theorem dX4_readNumber_69 : decode cX4_readNumber 69 = .ok (.aload_n 0, 1) := by decide +kernel
theorem dX4_readNumber_70 : decode cX4_readNumber 70 = .ok (.iconst 2, 1) := by decide +kernel
theorem dX4_readNumber_71 : decode cX4_readNumber 71 = .ok (.aload_n 0, 1) := by decide +kernel
theorem dX4_readNumber_72 : decode cX4_readNumber 72 = .ok (.getfield 12, 3) := by decide +kernel
theorem dX4_readNumber_75 : decode cX4_readNumber 75 = .ok (.getfield 73, 3) := by decide +kernel
theorem dX4_readNumber_78 : decode cX4_readNumber 78 = .ok (.invokevirtual 76, 3) := by decide +kernel
theorem dX4_readNumber_81 : decode cX4_readNumber 81 = .ok (.ireturn, 1) := by decide +kernel
theorem dX4_readNumber_82 : decode cX4_readNumber 82 = .ok (.aload_n 0, 1) := by decide +kernel
theorem dX4_readNumber_83 : decode cX4_readNumber 83 = .ok (.getfield 12, 3) := by decide +kernel
theorem dX4_readNumber_86 : decode cX4_readNumber 86 = .ok (.invokevirtual 94, 3) := by decide +kernel
theorem dX4_readNumber_89 : decode cX4_readNumber 89 = .ok (.iconst 1, 1) := by decide +kernel
theorem dX4_readNumber_90 : decode cX4_readNumber 90 = .ok (.ireturn, 1) := by decide +kernel
theorem dX4_readName_0 : decode cX4_readName 0 = .ok (.aload_n 0, 1) := by decide +kernel
theorem dX4_readName_1 : decode cX4_readName 1 = .ok (.getfield 12, 3) := by decide +kernel
theorem dX4_readName_4 : decode cX4_readName 4 = .ok (.getfield 61, 3) := by decide +kernel
theorem dX4_readName_7 : decode cX4_readName 7 = .ok (.iconst 1, 1) := by decide +kernel
theorem dX4_readName_8 : decode cX4_readName 8 = .ok (.if_icmp .ne 10, 3) := by decide +kernel
theorem dX4_readName_11 : decode cX4_readName 11 = .ok (.aload_n 0, 1) := by decide +kernel
theorem dX4_readName_12 : decode cX4_readName 12 = .ok (.invokevirtual 80, 3) := by decide +kernel
theorem dX4_readName_15 : decode cX4_readName 15 = .ok (.ifCond .eq 8, 3) := by decide +kernel
theorem dX4_readName_18 : decode cX4_readName 18 = .ok (.aload_n 0, 1) := by decide +kernel
theorem dX4_readName_19 : decode cX4_readName 19 = .ok (.invokevirtual 64, 3) := by decide +kernel
theorem dX4_readName_22 : decode cX4_readName 22 = .ok (.ireturn, 1) := by decide +kernel
theorem dX4_readName_23 : decode cX4_readName 23 = .ok (.aload_n 0, 1) := by decide +kernel
theorem dX4_readName_24 : decode cX4_readName 24 = .ok (.getfield 12, 3) := by decide +kernel
theorem dX4_readName_27 : decode cX4_readName 27 = .ok (.getfield 83, 3) := by decide +kernel
theorem dX4_readName_30 : decode cX4_readName 30 = .ok (.aload_n 0, 1) := by decide +kernel
theorem dX4_readName_31 : decode cX4_readName 31 = .ok (.getfield 12, 3) := by decide +kernel
theorem dX4_readName_34 : decode cX4_readName 34 = .ok (.getfield 73, 3) := by decide +kernel
theorem dX4_readName_37 : decode cX4_readName 37 = .ok (.isub, 1) := by decide +kernel
theorem dX4_readName_38 : decode cX4_readName 38 = .ok (.bipush 12, 2) := by decide +kernel
theorem dX4_readName_40 : decode cX4_readName 40 = .ok (.if_icmp .le 19, 3) := by decide +kernel
theorem dX4_readName_43 : decode cX4_readName 43 = .ok (.aload_n 0, 1) := by decide +kernel
theorem dX4_readName_44 : decode cX4_readName 44 = .ok (.iconst 1, 1) := by decide +kernel
theorem dX4_readName_45 : decode cX4_readName 45 = .ok (.aload_n 0, 1) := by decide +kernel
theorem dX4_readName_46 : decode cX4_readName 46 = .ok (.getfield 12, 3) := by decide +kernel
theorem dX4_readName_49 : decode cX4_readName 49 = .ok (.getfield 73, 3) := by decide +kernel
theorem dX4_readName_52 : decode cX4_readName 52 = .ok (.bipush 12, 2) := by decide +kernel
theorem dX4_readName_54 : decode cX4_readName 54 = .ok (.iadd, 1) := by decide +kernel
theorem dX4_readName_55 : decode cX4_readName 55 = .ok (.invokevirtual 76, 3) := by decide +kernel
theorem dX4_readName_58 : decode cX4_readName 58 = .ok (.ireturn, 1) := by decide +kernel
theorem dX4_readName_59 : decode cX4_readName 59 = .ok (.aload_n 0, 1) := by decide +kernel
theorem dX4_readName_60 : decode cX4_readName 60 = .ok (.aload_n 0, 1) := by decide +kernel
theorem dX4_readName_61 : decode cX4_readName 61 = .ok (.getfield 12, 3) := by decide +kernel
theorem dX4_readName_64 : decode cX4_readName 64 = .ok (.invokevirtual 86, 3) := by decide +kernel
theorem dX4_readName_67 : decode cX4_readName 67 = .ok (.putfield 90, 3) := by decide +kernel
theorem dX4_readName_70 : decode cX4_readName 70 = .ok (.aload_n 0, 1) := by decide +kernel
theorem dX4_readName_71 : decode cX4_readName 71 = .ok (.getfield 12, 3) := by decide +kernel
theorem dX4_readName_74 : decode cX4_readName 74 = .ok (.invokevirtual 94, 3) := by decide +kernel
theorem dX4_readName_77 : decode cX4_readName 77 = .ok (.iconst 1, 1) := by decide +kernel
theorem dX4_readName_78 : decode cX4_readName 78 = .ok (.ireturn, 1) := by decide +kernel
theorem dX4_addCode_0 : decode cX4_addCode 0 = .ok (.aload_n 0, 1) := by decide +kernel
theorem dX4_addCode_1 : decode cX4_addCode 1 = .ok (.getfield 29, 3) := by decide +kernel
theorem dX4_addCode_4 : decode cX4_addCode 4 = .ok (.ifCond .lt 35, 3) := by decide +kernel
theorem dX4_addCode_7 : decode cX4_addCode 7 = .ok (.aload_n 0, 1) := by decide +kernel
theorem dX4_addCode_8 : decode cX4_addCode 8 = .ok (.getfield 29, 3) := by decide +kernel
theorem dX4_addCode_11 : decode cX4_addCode 11 = .ok (.aload_n 0, 1) := by decide +kernel
theorem dX4_addCode_12 : decode cX4_addCode 12 = .ok (.getfield 22, 3) := by decide +kernel
theorem dX4_addCode_15 : decode cX4_addCode 15 = .ok (.arraylength, 1) := by decide +kernel
theorem dX4_addCode_16 : decode cX4_addCode 16 = .ok (.if_icmp .ge 23, 3) := by decide +kernel
theorem dX4_addCode_19 : decode cX4_addCode 19 = .ok (.aload_n 0, 1) := by decide +kernel
theorem dX4_addCode_20 : decode cX4_addCode 20 = .ok (.getfield 22, 3) := by decide +kernel
theorem dX4_addCode_23 : decode cX4_addCode 23 = .ok (.aload_n 0, 1) := by decide +kernel
theorem dX4_addCode_24 : decode cX4_addCode 24 = .ok (.getfield 29, 3) := by decide +kernel
theorem dX4_addCode_27 : decode cX4_addCode 27 = .ok (.iload_n 1, 1) := by decide +kernel
theorem dX4_addCode_28 : decode cX4_addCode 28 = .ok (.iastore, 1) := by decide +kernel
theorem dX4_addCode_29 : decode cX4_addCode 29 = .ok (.aload_n 0, 1) := by decide +kernel
theorem dX4_addCode_30 : decode cX4_addCode 30 = .ok (.dup, 1) := by decide +kernel
theorem dX4_addCode_31 : decode cX4_addCode 31 = .ok (.getfield 29, 3) := by decide +kernel
theorem dX4_addCode_34 : decode cX4_addCode 34 = .ok (.iconst 1, 1) := by decide +kernel
theorem dX4_addCode_35 : decode cX4_addCode 35 = .ok (.iadd, 1) := by decide +kernel
theorem dX4_addCode_36 : decode cX4_addCode 36 = .ok (.putfield 29, 3) := by decide +kernel
theorem dX4_addCode_39 : decode cX4_addCode 39 = .ok (.return_, 1) := by decide +kernel
theorem dX4_testCode_0 : decode cX4_testCode 0 = .ok (.iload_n 0, 1) := by decide +kernel
theorem dX4_testCode_1 : decode cX4_testCode 1 = .ok (.iconst 2, 1) := by decide +kernel
theorem dX4_testCode_2 : decode cX4_testCode 2 = .ok (.imul, 1) := by decide +kernel
theorem dX4_testCode_3 : decode cX4_testCode 3 = .ok (.iload_n 1, 1) := by decide +kernel
theorem dX4_testCode_4 : decode cX4_testCode 4 = .ok (.ifCond .eq 7, 3) := by decide +kernel
theorem dX4_testCode_7 : decode cX4_testCode 7 = .ok (.iconst 1, 1) := by decide +kernel
theorem dX4_testCode_8 : decode cX4_testCode 8 = .ok (.goto 4, 3) := by decide +kernel
theorem dX4_testCode_11 : decode cX4_testCode 11 = .ok (.iconst 0, 1) := by decide +kernel
theorem dX4_testCode_12 : decode cX4_testCode 12 = .ok (.iadd, 1) := by decide +kernel
theorem dX4_testCode_13 : decode cX4_testCode 13 = .ok (.bipush 10, 2) := by decide +kernel
theorem dX4_testCode_15 : decode cX4_testCode 15 = .ok (.ishl, 1) := by decide +kernel
theorem dX4_testCode_16 : decode cX4_testCode 16 = .ok (.iload_n 2, 1) := by decide +kernel
theorem dX4_testCode_17 : decode cX4_testCode 17 = .ok (.iadd, 1) := by decide +kernel
theorem dX4_testCode_18 : decode cX4_testCode 18 = .ok (.ireturn, 1) := by decide +kernel
theorem dX4_readTest_0 : decode cX4_readTest 0 = .ok (.aload_n 0, 1) := by decide +kernel
theorem dX4_readTest_1 : decode cX4_readTest 1 = .ok (.invokevirtual 110, 3) := by decide +kernel
theorem dX4_readTest_4 : decode cX4_readTest 4 = .ok (.istore_n 1, 1) := by decide +kernel
theorem dX4_readTest_5 : decode cX4_readTest 5 = .ok (.iload_n 1, 1) := by decide +kernel
theorem dX4_readTest_6 : decode cX4_readTest 6 = .ok (.iconst (-1), 1) := by decide +kernel
theorem dX4_readTest_7 : decode cX4_readTest 7 = .ok (.if_icmp .ne 8, 3) := by decide +kernel
theorem dX4_readTest_10 : decode cX4_readTest 10 = .ok (.aload_n 0, 1) := by decide +kernel
theorem dX4_readTest_11 : decode cX4_readTest 11 = .ok (.invokevirtual 64, 3) := by decide +kernel
theorem dX4_readTest_14 : decode cX4_readTest 14 = .ok (.ireturn, 1) := by decide +kernel
theorem dX4_readTest_15 : decode cX4_readTest 15 = .ok (.aload_n 0, 1) := by decide +kernel
theorem dX4_readTest_16 : decode cX4_readTest 16 = .ok (.getfield 12, 3) := by decide +kernel
theorem dX4_readTest_19 : decode cX4_readTest 19 = .ok (.invokevirtual 94, 3) := by decide +kernel
theorem dX4_readTest_22 : decode cX4_readTest 22 = .ok (.iload_n 1, 1) := by decide +kernel
theorem dX4_readTest_23 : decode cX4_readTest 23 = .ok (.bipush 10, 2) := by decide +kernel
theorem dX4_readTest_25 : decode cX4_readTest 25 = .ok (.if_icmp .eq 9, 3) := by decide +kernel
theorem dX4_readTest_28 : decode cX4_readTest 28 = .ok (.iload_n 1, 1) := by decide +kernel
theorem dX4_readTest_29 : decode cX4_readTest 29 = .ok (.bipush 30, 2) := by decide +kernel
theorem dX4_readTest_31 : decode cX4_readTest 31 = .ok (.if_icmp .ne 30, 3) := by decide +kernel
theorem dX4_readTest_34 : decode cX4_readTest 34 = .ok (.aload_n 0, 1) := by decide +kernel
theorem dX4_readTest_35 : decode cX4_readTest 35 = .ok (.iload_n 1, 1) := by decide +kernel
theorem dX4_readTest_36 : decode cX4_readTest 36 = .ok (.bipush 30, 2) := by decide +kernel
theorem dX4_readTest_38 : decode cX4_readTest 38 = .ok (.if_icmp .ne 7, 3) := by decide +kernel
theorem dX4_readTest_41 : decode cX4_readTest 41 = .ok (.iconst 3, 1) := by decide +kernel
theorem dX4_readTest_42 : decode cX4_readTest 42 = .ok (.goto 4, 3) := by decide +kernel
theorem dX4_readTest_45 : decode cX4_readTest 45 = .ok (.iconst 4, 1) := by decide +kernel
theorem dX4_readTest_46 : decode cX4_readTest 46 = .ok (.invokevirtual 53, 3) := by decide +kernel
theorem dX4_readTest_49 : decode cX4_readTest 49 = .ok (.ifCond .ne 5, 3) := by decide +kernel
theorem dX4_readTest_52 : decode cX4_readTest 52 = .ok (.iconst 0, 1) := by decide +kernel
theorem dX4_readTest_53 : decode cX4_readTest 53 = .ok (.ireturn, 1) := by decide +kernel
theorem dX4_readTest_54 : decode cX4_readTest 54 = .ok (.iload_n 1, 1) := by decide +kernel
theorem dX4_readTest_55 : decode cX4_readTest 55 = .ok (.aload_n 0, 1) := by decide +kernel
theorem dX4_readTest_56 : decode cX4_readTest 56 = .ok (.getfield 56, 3) := by decide +kernel
theorem dX4_readTest_59 : decode cX4_readTest 59 = .ok (.iadd, 1) := by decide +kernel
theorem dX4_readTest_60 : decode cX4_readTest 60 = .ok (.istore_n 1, 1) := by decide +kernel
theorem dX4_readTest_61 : decode cX4_readTest 61 = .ok (.aload_n 0, 1) := by decide +kernel
theorem dX4_readTest_62 : decode cX4_readTest 62 = .ok (.getfield 12, 3) := by decide +kernel
theorem dX4_readTest_65 : decode cX4_readTest 65 = .ok (.ldc 108, 2) := by decide +kernel
theorem dX4_readTest_67 : decode cX4_readTest 67 = .ok (.invokevirtual 99, 3) := by decide +kernel
theorem dX4_readTest_70 : decode cX4_readTest 70 = .ok (.istore_n 2, 1) := by decide +kernel
theorem dX4_readTest_71 : decode cX4_readTest 71 = .ok (.iload_n 2, 1) := by decide +kernel
theorem dX4_readTest_72 : decode cX4_readTest 72 = .ok (.ifCond .ne 20, 3) := by decide +kernel
theorem dX4_readTest_75 : decode cX4_readTest 75 = .ok (.aload_n 0, 1) := by decide +kernel
theorem dX4_readTest_76 : decode cX4_readTest 76 = .ok (.getfield 12, 3) := by decide +kernel
theorem dX4_readTest_79 : decode cX4_readTest 79 = .ok (.ldc 106, 2) := by decide +kernel
theorem dX4_readTest_81 : decode cX4_readTest 81 = .ok (.invokevirtual 99, 3) := by decide +kernel
theorem dX4_readTest_84 : decode cX4_readTest 84 = .ok (.ifCond .ne 8, 3) := by decide +kernel
theorem dX4_readTest_87 : decode cX4_readTest 87 = .ok (.aload_n 0, 1) := by decide +kernel
theorem dX4_readTest_88 : decode cX4_readTest 88 = .ok (.invokevirtual 64, 3) := by decide +kernel
theorem dX4_readTest_91 : decode cX4_readTest 91 = .ok (.ireturn, 1) := by decide +kernel
theorem dX4_readTest_92 : decode cX4_readTest 92 = .ok (.aload_n 0, 1) := by decide +kernel
theorem dX4_readTest_93 : decode cX4_readTest 93 = .ok (.getfield 12, 3) := by decide +kernel
theorem dX4_readTest_96 : decode cX4_readTest 96 = .ok (.invokevirtual 94, 3) := by decide +kernel
theorem dX4_readTest_99 : decode cX4_readTest 99 = .ok (.aload_n 0, 1) := by decide +kernel
theorem dX4_readTest_100 : decode cX4_readTest 100 = .ok (.sipush 1000, 3) := by decide +kernel
theorem dX4_readTest_103 : decode cX4_readTest 103 = .ok (.invokevirtual 53, 3) := by decide +kernel
theorem dX4_readTest_106 : decode cX4_readTest 106 = .ok (.ifCond .ne 5, 3) := by decide +kernel
theorem dX4_readTest_109 : decode cX4_readTest 109 = .ok (.iconst 0, 1) := by decide +kernel
theorem dX4_readTest_110 : decode cX4_readTest 110 = .ok (.ireturn, 1) := by decide +kernel
theorem dX4_readTest_111 : decode cX4_readTest 111 = .ok (.aload_n 0, 1) := by decide +kernel
theorem dX4_readTest_112 : decode cX4_readTest 112 = .ok (.iload_n 1, 1) := by decide +kernel
theorem dX4_readTest_113 : decode cX4_readTest 113 = .ok (.iload_n 2, 1) := by decide +kernel
theorem dX4_readTest_114 : decode cX4_readTest 114 = .ok (.aload_n 0, 1) := by decide +kernel
theorem dX4_readTest_115 : decode cX4_readTest 115 = .ok (.getfield 56, 3) := by decide +kernel
theorem dX4_readTest_118 : decode cX4_readTest 118 = .ok (.invokestatic 133, 3) := by decide +kernel
theorem dX4_readTest_121 : decode cX4_readTest 121 = .ok (.invokevirtual 126, 3) := by decide +kernel
theorem dX4_readTest_124 : decode cX4_readTest 124 = .ok (.iconst 1, 1) := by decide +kernel
theorem dX4_readTest_125 : decode cX4_readTest 125 = .ok (.ireturn, 1) := by decide +kernel
set_option maxRecDepth 20000 in
theorem ggX4_failHere_X4_failAt : GoodIn wsX4_failHere wsX4_failAt := goodIn_r _ [7, 8, 9, 10, 11, 12, 13, 14, 15, 16, 17] (by decide +kernel) (by decide +kernel)
set_option maxRecDepth 20000 in
theorem gX4_failHere_X4_failAt : GoodIn wsX4_failHere (wsV RX4 76 RX4 yX4_failAt wsX4_failAt) := goodIn_app (goodIn_of _ (by decide +kernel)) ggX4_failHere_X4_failAt
set_option maxRecDepth 20000 in
theorem ggX4_measureNamed_X6_isWord : GoodIn wsX4_measureNamed wsX6_isWord := goodIn_r _ [6, 7, 8, 9, 10, 11, 12, 13, 14, 15, 16, 17, 18, 19, 20, 21, 22, 23, 24, 5, 25, 26, 27, 28, 29, 30, 31, 32, 33, 34, 35, 36, 37, 38, 39, 40, 41, 42, 43, 44, 45, 46, 47, 48, 49, 50, 51, 52, 53, 54, 55, 56, 57, 58, 59, 60, 61, 62, 63, 64, 73, 74, 75, 76, 77] (by decide +kernel) (by decide +kernel)
set_option maxRecDepth 20000 in
theorem gX4_measureNamed_X6_isWord : GoodIn wsX4_measureNamed (wsV RX4 99 RX6 yX6_isWord wsX6_isWord) := goodIn_app (goodIn_of _ (by decide +kernel)) ggX4_measureNamed_X6_isWord
set_option maxRecDepth 20000 in
theorem ggX4_isAndOr_X6_isWord : GoodIn wsX4_isAndOr wsX6_isWord := goodIn_r _ [6, 7, 8, 9, 10, 11, 12, 13, 14, 15, 16, 17, 18, 19, 20, 21, 22, 23, 24, 5, 25, 26, 27, 28, 29, 30, 31, 32, 33, 34, 35, 36, 37, 38, 39, 40, 41, 42, 43, 44, 45, 46, 47, 48, 49, 50, 51, 52, 53, 54, 55, 56, 57, 58, 59, 60, 61, 62, 63, 64, 73, 74, 75, 76, 77] (by decide +kernel) (by decide +kernel)
set_option maxRecDepth 20000 in
theorem gX4_isAndOr_X6_isWord : GoodIn wsX4_isAndOr (wsV RX4 99 RX6 yX6_isWord wsX6_isWord) := goodIn_app (goodIn_of _ (by decide +kernel)) ggX4_isAndOr_X6_isWord
set_option maxRecDepth 20000 in
theorem ggX4_isKeptWord_X6_isWord : GoodIn wsX4_isKeptWord wsX6_isWord := goodIn_r _ [6, 7, 8, 9, 10, 11, 12, 13, 14, 15, 16, 17, 18, 19, 20, 21, 22, 23, 24, 5, 25, 26, 27, 28, 29, 30, 31, 32, 33, 34, 35, 36, 37, 38, 39, 40, 41, 42, 43, 44, 45, 46, 47, 48, 49, 50, 51, 52, 53, 54, 55, 56, 57, 58, 59, 60, 61, 62, 63, 64, 78, 79, 80, 81, 82] (by decide +kernel) (by decide +kernel)
set_option maxRecDepth 20000 in
theorem gX4_isKeptWord_X6_isWord : GoodIn wsX4_isKeptWord (wsV RX4 99 RX6 yX6_isWord wsX6_isWord) := goodIn_app (goodIn_of _ (by decide +kernel)) ggX4_isKeptWord_X6_isWord
set_option maxRecDepth 20000 in
theorem ggX4_isKeptWord_X4_measureNamed : GoodIn wsX4_isKeptWord wsX4_measureNamed := goodIn_r _ [69, 1, 2, 3, 4, 5, 6, 7, 8, 9, 10, 11, 12, 13, 14, 15, 16, 17, 18, 19, 20, 21, 22, 23, 24, 25, 26, 27, 28, 29, 30, 31, 32, 33, 34, 35, 36, 37, 38, 39, 40, 41, 42, 43, 44, 45, 46, 47, 48, 49, 50, 51, 52, 53, 54, 55, 56, 57, 58, 59, 60, 61, 62, 63, 64, 70, 71, 72, 73, 74, 75, 76, 77, 78, 79, 80, 81, 82] (by decide +kernel) (by decide +kernel)
set_option maxRecDepth 20000 in
theorem gX4_isKeptWord_X4_measureNamed : GoodIn wsX4_isKeptWord (wsV RX4 110 RX4 yX4_measureNamed wsX4_measureNamed) := goodIn_app (goodIn_of _ (by decide +kernel)) ggX4_isKeptWord_X4_measureNamed
set_option maxRecDepth 20000 in
theorem ggX4_readByte_X6_isByte : GoodIn wsX4_readByte wsX6_isByte := goodIn_r _ [6, 7, 8, 9, 10, 11, 5, 12, 13, 14, 43, 44, 45, 46, 47] (by decide +kernel) (by decide +kernel)
set_option maxRecDepth 20000 in
theorem gX4_readByte_X6_isByte : GoodIn wsX4_readByte (wsV RX4 114 RX6 yX6_isByte wsX6_isByte) := goodIn_app (goodIn_of _ (by decide +kernel)) ggX4_readByte_X6_isByte
set_option maxRecDepth 20000 in
theorem ggX4_readByte_X4_failHere : GoodIn wsX4_readByte wsX4_failHere := goodIn_r _ [19, 1, 20, 21, 22, 23, 18, 24, 25, 26, 35, 36, 37, 38, 39, 40, 41, 42, 43, 44, 45, 46, 47] (by decide +kernel) (by decide +kernel)
set_option maxRecDepth 20000 in
theorem gX4_readByte_X4_failHere : GoodIn wsX4_readByte (wsV RX4 64 RX4 yX4_failHere wsX4_failHere) := goodIn_app (goodIn_of _ (by decide +kernel)) ggX4_readByte_X4_failHere
set_option maxRecDepth 20000 in
theorem ggX4_readByte_X6_advance : GoodIn wsX4_readByte wsX6_advance := goodIn_r _ [30, 31, 13, 8, 7, 9, 10, 11, 5, 12, 14, 32, 33, 34, 43, 44, 45, 46, 47] (by decide +kernel) (by decide +kernel)
set_option maxRecDepth 20000 in
theorem gX4_readByte_X6_advance : GoodIn wsX4_readByte (wsV RX4 94 RX6 yX6_advance wsX6_advance) := goodIn_app (goodIn_of _ (by decide +kernel)) ggX4_readByte_X6_advance
set_option maxRecDepth 20000 in
theorem ggX4_readWord_X6_isWord : GoodIn wsX4_readWord wsX6_isWord := goodIn_r _ [6, 7, 8, 9, 10, 11, 12, 13, 14, 15, 16, 17, 18, 19, 20, 21, 22, 23, 24, 5, 25, 26, 27, 28, 29, 30, 31, 32, 33, 34, 35, 36, 37, 38, 39, 40, 41, 42, 43, 44, 45, 46, 47, 48, 49, 50, 51, 52, 53, 54, 55, 56, 57, 58, 59, 60, 61, 62, 63, 64, 92, 93, 94, 95, 96] (by decide +kernel) (by decide +kernel)
set_option maxRecDepth 20000 in
theorem gX4_readWord_X6_isWord : GoodIn wsX4_readWord (wsV RX4 99 RX6 yX6_isWord wsX6_isWord) := goodIn_app (goodIn_of _ (by decide +kernel)) ggX4_readWord_X6_isWord
set_option maxRecDepth 20000 in
theorem ggX4_readWord_X4_failHere : GoodIn wsX4_readWord wsX4_failHere := goodIn_r _ [69, 1, 70, 71, 72, 73, 68, 74, 75, 76, 84, 85, 86, 87, 88, 89, 90, 91, 92, 93, 94, 95, 96] (by decide +kernel) (by decide +kernel)
set_option maxRecDepth 20000 in
theorem gX4_readWord_X4_failHere : GoodIn wsX4_readWord (wsV RX4 64 RX4 yX4_failHere wsX4_failHere) := goodIn_app (goodIn_of _ (by decide +kernel)) ggX4_readWord_X4_failHere
set_option maxRecDepth 20000 in
theorem ggX4_readWord_X6_advance : GoodIn wsX4_readWord wsX6_advance := goodIn_r _ [80, 8, 26, 9, 7, 22, 23, 24, 5, 25, 27, 81, 82, 83, 92, 93, 94, 95, 96] (by decide +kernel) (by decide +kernel)
set_option maxRecDepth 20000 in
theorem gX4_readWord_X6_advance : GoodIn wsX4_readWord (wsV RX4 94 RX6 yX6_advance wsX6_advance) := goodIn_app (goodIn_of _ (by decide +kernel)) ggX4_readWord_X6_advance
set_option maxRecDepth 20000 in
theorem ggX4_readNumber_X6_numberValue : GoodIn wsX4_readNumber wsX6_numberValue := goodIn_r _ [21, 22, 23, 24, 25, 26, 20, 27, 28, 29, 46, 47, 48, 49, 50] (by decide +kernel) (by decide +kernel)
set_option maxRecDepth 20000 in
theorem gX4_readNumber_X6_numberValue : GoodIn wsX4_readNumber (wsV RX4 117 RX6 yX6_numberValue wsX6_numberValue) := goodIn_app (goodIn_of _ (by decide +kernel)) ggX4_readNumber_X6_numberValue
set_option maxRecDepth 20000 in
theorem ggX4_readNumber_X6_advance : GoodIn wsX4_readNumber wsX6_advance := goodIn_r _ [33, 23, 28, 22, 34, 24, 25, 26, 20, 27, 29, 35, 36, 37, 46, 47, 48, 49, 50] (by decide +kernel) (by decide +kernel)
set_option maxRecDepth 20000 in
theorem gX4_readNumber_X6_advance : GoodIn wsX4_readNumber (wsV RX4 94 RX6 yX6_advance wsX6_advance) := goodIn_app (goodIn_of _ (by decide +kernel)) ggX4_readNumber_X6_advance
set_option maxRecDepth 20000 in
theorem ggX4_readNumber_X4_failAt : GoodIn wsX4_readNumber wsX4_failAt := goodIn_r _ [14, 15, 16, 38, 39, 40, 41, 42, 43, 44, 45] (by decide +kernel) (by decide +kernel)
set_option maxRecDepth 20000 in
theorem gX4_readNumber_X4_failAt : GoodIn wsX4_readNumber (wsV RX4 76 RX4 yX4_failAt wsX4_failAt) := goodIn_app (goodIn_of _ (by decide +kernel)) ggX4_readNumber_X4_failAt
set_option maxRecDepth 20000 in
theorem ggX4_readNumber_X4_failHere : GoodIn wsX4_readNumber wsX4_failHere := goodIn_r _ [10, 1, 4, 11, 12, 13, 9, 14, 15, 16, 38, 39, 40, 41, 42, 43, 44, 45, 46, 47, 48, 49, 50] (by decide +kernel) (by decide +kernel)
set_option maxRecDepth 20000 in
theorem gX4_readNumber_X4_failHere : GoodIn wsX4_readNumber (wsV RX4 64 RX4 yX4_failHere wsX4_failHere) := goodIn_app (goodIn_of _ (by decide +kernel)) ggX4_readNumber_X4_failHere
set_option maxRecDepth 20000 in
theorem ggX4_readName_X4_failHere : GoodIn wsX4_readName wsX4_failHere := goodIn_r _ [81, 1, 4, 82, 83, 84, 9, 85, 86, 87, 100, 101, 102, 103, 104, 105, 106, 107, 108, 109, 110, 111, 112] (by decide +kernel) (by decide +kernel)
set_option maxRecDepth 20000 in
theorem gX4_readName_X4_failHere : GoodIn wsX4_readName (wsV RX4 64 RX4 yX4_failHere wsX4_failHere) := goodIn_app (goodIn_of _ (by decide +kernel)) ggX4_readName_X4_failHere
set_option maxRecDepth 20000 in
theorem ggX4_readName_X4_isKeptWord : GoodIn wsX4_readName wsX4_isKeptWord := goodIn_r _ [10, 1, 11, 12, 13, 14, 15, 16, 17, 18, 19, 20, 21, 22, 23, 24, 25, 26, 27, 28, 29, 30, 31, 32, 33, 34, 35, 36, 37, 38, 39, 40, 41, 42, 43, 44, 45, 46, 47, 48, 49, 50, 51, 52, 53, 54, 55, 56, 57, 58, 59, 60, 61, 62, 63, 64, 65, 66, 67, 68, 69, 70, 71, 72, 73, 74, 75, 76, 9, 77, 100, 101, 102, 103, 104, 105, 106, 107, 108, 109, 110, 111, 112] (by decide +kernel) (by decide +kernel)
set_option maxRecDepth 20000 in
theorem gX4_readName_X4_isKeptWord : GoodIn wsX4_readName (wsV RX4 80 RX4 yX4_isKeptWord wsX4_isKeptWord) := goodIn_app (goodIn_of _ (by decide +kernel)) ggX4_readName_X4_isKeptWord
set_option maxRecDepth 20000 in
theorem ggX4_readName_X6_wordKey : GoodIn wsX4_readName wsX6_wordKey := goodIn_r _ [91, 18, 17, 92, 31, 32, 33, 14, 34, 35, 36, 108, 109, 110, 111, 112] (by decide +kernel) (by decide +kernel)
set_option maxRecDepth 20000 in
theorem gX4_readName_X6_wordKey : GoodIn wsX4_readName (wsV RX4 86 RX6 yX6_wordKey wsX6_wordKey) := goodIn_app (goodIn_of _ (by decide +kernel)) ggX4_readName_X6_wordKey
set_option maxRecDepth 20000 in
theorem ggX4_readName_X6_advance : GoodIn wsX4_readName wsX6_advance := goodIn_r _ [96, 17, 35, 18, 16, 31, 32, 33, 14, 34, 36, 97, 98, 99, 108, 109, 110, 111, 112] (by decide +kernel) (by decide +kernel)
set_option maxRecDepth 20000 in
theorem gX4_readName_X6_advance : GoodIn wsX4_readName (wsV RX4 94 RX6 yX6_advance wsX6_advance) := goodIn_app (goodIn_of _ (by decide +kernel)) ggX4_readName_X6_advance
set_option maxRecDepth 20000 in
theorem ggX4_readName_X4_failAt : GoodIn wsX4_readName wsX4_failAt := goodIn_r _ [85, 86, 87, 100, 101, 102, 103, 104, 105, 106, 107] (by decide +kernel) (by decide +kernel)
set_option maxRecDepth 20000 in
theorem gX4_readName_X4_failAt : GoodIn wsX4_readName (wsV RX4 76 RX4 yX4_failAt wsX4_failAt) := goodIn_app (goodIn_of _ (by decide +kernel)) ggX4_readName_X4_failAt
set_option maxRecDepth 20000 in
theorem ggX4_readTest_X4_measureNamed : GoodIn wsX4_readTest wsX4_measureNamed := goodIn_r _ [7, 1, 8, 9, 10, 11, 12, 13, 14, 15, 16, 17, 18, 19, 20, 21, 22, 23, 24, 25, 26, 27, 28, 29, 30, 31, 32, 33, 34, 35, 36, 37, 38, 39, 40, 41, 42, 43, 44, 45, 46, 47, 48, 49, 50, 51, 52, 53, 54, 55, 56, 57, 58, 59, 60, 61, 62, 63, 64, 65, 66, 67, 68, 69, 70, 108, 109, 110, 111, 112, 113, 114, 115, 116, 117, 118, 119, 120] (by decide +kernel) (by decide +kernel)
set_option maxRecDepth 20000 in
theorem gX4_readTest_X4_measureNamed : GoodIn wsX4_readTest (wsV RX4 110 RX4 yX4_measureNamed wsX4_measureNamed) := goodIn_app (goodIn_of _ (by decide +kernel)) ggX4_readTest_X4_measureNamed
set_option maxRecDepth 20000 in
theorem ggX4_readTest_X6_advance : GoodIn wsX4_readTest wsX6_advance := goodIn_r _ [85, 14, 32, 15, 13, 28, 29, 30, 11, 31, 33, 86, 87, 88, 116, 117, 118, 119, 120] (by decide +kernel) (by decide +kernel)
set_option maxRecDepth 20000 in
theorem gX4_readTest_X6_advance : GoodIn wsX4_readTest (wsV RX4 94 RX6 yX6_advance wsX6_advance) := goodIn_app (goodIn_of _ (by decide +kernel)) ggX4_readTest_X6_advance
set_option maxRecDepth 20000 in
theorem ggX4_readTest_X4_readNumber : GoodIn wsX4_readTest wsX4_readNumber := goodIn_r _ [92, 1, 93, 94, 75, 2, 71, 72, 73, 6, 74, 76, 77, 78, 79, 80, 81, 95, 96, 97, 11, 98, 15, 14, 28, 29, 30, 31, 32, 33, 82, 83, 84, 85, 13, 86, 87, 88, 108, 109, 110, 111, 112, 113, 114, 115, 116, 117, 118, 119, 120] (by decide +kernel) (by decide +kernel)
set_option maxRecDepth 20000 in
theorem gX4_readTest_X4_readNumber : GoodIn wsX4_readTest (wsV RX4 53 RX4 yX4_readNumber wsX4_readNumber) := goodIn_app (goodIn_of _ (by decide +kernel)) ggX4_readTest_X4_readNumber
set_option maxRecDepth 20000 in
theorem ggX4_readTest_X6_isWord : GoodIn wsX4_readTest wsX6_isWord := goodIn_r _ [12, 13, 14, 15, 16, 17, 18, 19, 20, 21, 22, 23, 24, 25, 26, 27, 28, 29, 30, 11, 31, 32, 33, 34, 35, 36, 37, 38, 39, 40, 41, 42, 43, 44, 45, 46, 47, 48, 49, 50, 51, 52, 53, 54, 55, 56, 57, 58, 59, 60, 61, 62, 63, 64, 65, 66, 67, 68, 69, 70, 116, 117, 118, 119, 120] (by decide +kernel) (by decide +kernel)
set_option maxRecDepth 20000 in
theorem gX4_readTest_X6_isWord : GoodIn wsX4_readTest (wsV RX4 99 RX6 yX6_isWord wsX6_isWord) := goodIn_app (goodIn_of _ (by decide +kernel)) ggX4_readTest_X6_isWord
set_option maxRecDepth 20000 in
theorem ggX4_readTest_X4_failHere : GoodIn wsX4_readTest wsX4_failHere := goodIn_r _ [74, 1, 75, 76, 77, 78, 6, 79, 80, 81, 108, 109, 110, 111, 112, 113, 114, 115, 116, 117, 118, 119, 120] (by decide +kernel) (by decide +kernel)
set_option maxRecDepth 20000 in
theorem gX4_readTest_X4_failHere : GoodIn wsX4_readTest (wsV RX4 64 RX4 yX4_failHere wsX4_failHere) := goodIn_app (goodIn_of _ (by decide +kernel)) ggX4_readTest_X4_failHere
set_option maxRecDepth 20000 in
theorem ggX4_readTest_X4_testCode : GoodIn wsX4_readTest wsX4_testCode := goodIn_r _ [101] (by decide +kernel) (by decide +kernel)
set_option maxRecDepth 20000 in
theorem gX4_readTest_X4_testCode : GoodIn wsX4_readTest (va_wsS RX4 133 yX4_testCode wsX4_testCode) := goodIn_app (goodIn_of _ (by decide +kernel)) ggX4_readTest_X4_testCode
set_option maxRecDepth 20000 in
theorem ggX4_readTest_X4_addCode : GoodIn wsX4_readTest wsX4_addCode := goodIn_r _ [105, 106, 107, 108, 109, 110, 111, 112, 113, 114, 115] (by decide +kernel) (by decide +kernel)
set_option maxRecDepth 20000 in
theorem gX4_readTest_X4_addCode : GoodIn wsX4_readTest (wsV RX4 126 RX4 yX4_addCode wsX4_addCode) := goodIn_app (goodIn_of _ (by decide +kernel)) ggX4_readTest_X4_addCode
/-- the reader and its tape, at their places; the tape's length is told -/
def RS (ws : va_W) (tys : List (ClassId × FieldType)) (rd krd tp ktp cd bb tl : Nat) : Prop := ∃ (ts te cc : Nat) (r1 : Int64) (r2 r3 r4 r7 y1 : Int32), ts ≤ te ∧ te ≤ tl ∧ tl ≤ 400 ∧ cc ≤ 200 ∧ ws[krd]? = some (rd, .inr (4, [.ref tp, .long r1, .int r2, .int r3, .int r4, .ref cd, .int (nI cc), .int r7])) ∧ ws[ktp]? = some (tp, .inr (6, [.int (nI tl), .int y1, .int (nI ts), .int (nI te), .ref bb])) ∧ aI ws tys cd 200 ∧ aI ws tys bb 400
set_option maxHeartbeats 4000000 in
set_option maxRecDepth 100000 in
theorem r_failAt (l : Launch) (D : va_G) (ws : va_W) (tys : List (ClassId × FieldType)) (adK adV : Nat → Nat) (fo : Option Nat) (rd krd tp ktp cd bb tl : Nat) (a1 a2 : Int32) (sz : Nat) (R0 : RS ws tys rd krd tp ktp cd bb tl)  : Met l yX4_failAt wsX4_failAt ({ frames := 0, cells := 0, slots := 0, locals := 0 }) (va_Pc [.ref rd, .int a1, .int a2] (fun U => U.heap.size = sz ∧ va_P D vwCl ws U.heap ∧ va_K D vwCl tys U ∧ va_D (fun _ => True) ws ∧ SZ adK adV fo (va_A ws sz) U U.heap)) (va_Qi (fun (r : Int32) (_ : Unit) => r = 0) (fun (_ : Unit) (t : State) => ∃ (ws' : va_W) (tys' : List (ClassId × FieldType)), sm [4, 6] ws ws' ∧ tyx tys tys' ∧ va_P D vwCl ws' t.heap ∧ va_K D vwCl tys' t ∧ va_D (va_A ws sz) ws' ∧ RS ws' tys' rd krd tp ktp cd bb tl) (va_A ws sz)) 0 0 (va_A ws sz) := by
  refine Met.ofW (cc := cX4_failAt) (maxL := 3) (ret := (some .boolean)) (by decide) rfl ?_
  intro p e s m args below meth c s₁ B hml hv
  obtain ⟨rfl, hsz, hP, hK, hD0, hsz9⟩ := hv
  have hx := B.exec
  have hb := B.bytes
  have hr := B.returns
  have hts := atoms_spec (ws := wsX4_failAt) B.pre
  have hown : s.vm.findClass RX4 = some m.cls := findClass_of_methodNamed B.named
  have hlocks := B.notSynchronized
  subst hsz
  have hD := hD0.self (sz := s.heap.size)
  generalize hAe : va_A ws s.heap.size = A at hD hsz9 ⊢
  have hA : ∀ q : Nat, s.heap.size ≤ q → A q := fun q h => by rw [← hAe]; exact Or.inr h
  have hS : va_S A s.heap s.heap [] := va_S.rf
  have hsm : sm [4, 6] ws ws := sm.rf ws
  have htx : tyx tys tys := tyx.rf tys
  have hin4 : ∀ w ∈ u_ws RX4 TX4 8, w ∈ wsX4_failAt := (fun _ h9 => List.mem_cons_of_mem _ ((List.mem_append_right _ h9)))
  have hl := lv_entry ([.ref rd, .int a1, .int a2]) (n := 3) (Nat.le_of_ble_eq_true rfl)
  rw [lg_entry_eq]
  generalize (lg_sl ([.ref rd, .int a1, .int a2]) ++ List.replicate (3 - (lg_sl ([.ref rd, .int a1, .int a2])).length) Slot.unset).toArray = ls at hl ⊢
  have hl : lv_has ls 3 [(0, .ref rd), (1, .int a1), (2, .int a2)] := hl
  obtain ⟨ts_1, te_2, cc_3, ra_4, rb_5, rc_6, rv_7, re_8, ya_9, h1_10, h2_11, h3_12, h4_13, er_14, et_15, ⟨k_16, c9_17, t_18, f_19, e_20, u_21⟩, ⟨k_22, c9_23, t_24, f_25, e_26, u_27⟩⟩ := id R0
  refine lv_aload_n hx hb dX4_failAt_0 rfl (lv_at hl 0 rfl) ?_
  refine lv_iload_n hx hb dX4_failAt_1 rfl (lv_at hl 1 rfl) ?_
  refine va_put (D := D) (ci := 4) (v := .int a1) (ty := .int) (C := RX4) (T := TX4) (N := 8) hx hb hts hin4 tyX4 tyX4_ok nmX4 hown hK hP hD hS krd er_14 rfl 3 (by decide) (hts (.fieldLink RX4 26 "HoneyHouse$RuleReader" "faultKind" "I") (List.mem_of_getElem? (i := 1) rfl)) (fun _ h9 => h9) rfl (tyX4_ok 3 (by decide)) rfl rfl (Nat.le_of_ble_eq_true rfl) dX4_failAt_2 (fun H locs hP hD hS => ?_)
  have hP : va_P D vwCl (ws.set krd (rd, .inr (4, [.ref tp, .long ra_4, .int rb_5, .int a1, .int rv_7, .ref cd, .int (nI cc_3), .int re_8]))) H := hP
  have hD : va_D A (ws.set krd (rd, .inr (4, [.ref tp, .long ra_4, .int rb_5, .int a1, .int rv_7, .ref cd, .int (nI cc_3), .int re_8]))) := hD
  have hm_29 : sm [4] ws (ws.set krd (rd, .inr (4, [.ref tp, .long ra_4, .int rb_5, .int a1, .int rv_7, .ref cd, .int (nI cc_3), .int re_8]))) := sm.flds er_14 (smF.c (smV.rf _) (smF.c (smV.rf _) (smF.c (smV.rf _) (smF.c (smV.i _ _) (smF.c (smV.rf _) (smF.c (smV.rf _) (smF.c (smV.rf _) (smF.c (smV.rf _) (rfl))))))))) (List.mem_singleton.mpr rfl)
  have e_30 : (ws.set krd (rd, .inr (4, [.ref tp, .long ra_4, .int rb_5, .int a1, .int rv_7, .ref cd, .int (nI cc_3), .int re_8])))[krd]? = some (rd, .inr (4, [.ref tp, .long ra_4, .int rb_5, .int a1, .int rv_7, .ref cd, .int (nI cc_3), .int re_8])) := wset_self er_14
  generalize ws.set krd (rd, .inr (4, [.ref tp, .long ra_4, .int rb_5, .int a1, .int rv_7, .ref cd, .int (nI cc_3), .int re_8])) = ws_28 at hP hD hm_29 e_30
  have e_31 := hm_29.objK et_15 (by decide)
  obtain ⟨f_33, e_32⟩ := hm_29.arrI e_20
  obtain ⟨f_35, e_34⟩ := hm_29.arrI e_26
  have hsm := hsm.tr (hm_29.mono (by decide))
  refine lv_aload_n hx hb dX4_failAt_5 rfl (lv_at hl 0 rfl) ?_
  refine lv_iload_n hx hb dX4_failAt_6 rfl (lv_at hl 2 rfl) ?_
  refine va_put (D := D) (ci := 4) (v := .int a2) (ty := .int) (C := RX4) (T := TX4) (N := 8) hx hb hts hin4 tyX4 tyX4_ok nmX4 hown hK hP hD hS krd e_30 rfl 4 (by decide) (hts (.fieldLink RX4 18 "HoneyHouse$RuleReader" "faultPlace" "I") (List.mem_of_getElem? (i := 2) rfl)) (fun _ h9 => h9) rfl (tyX4_ok 4 (by decide)) rfl rfl (Nat.le_of_ble_eq_true rfl) dX4_failAt_7 (fun H locs hP hD hS => ?_)
  have hP : va_P D vwCl (ws_28.set krd (rd, .inr (4, [.ref tp, .long ra_4, .int rb_5, .int a1, .int a2, .ref cd, .int (nI cc_3), .int re_8]))) H := hP
  have hD : va_D A (ws_28.set krd (rd, .inr (4, [.ref tp, .long ra_4, .int rb_5, .int a1, .int a2, .ref cd, .int (nI cc_3), .int re_8]))) := hD
  have hm_37 : sm [4] ws_28 (ws_28.set krd (rd, .inr (4, [.ref tp, .long ra_4, .int rb_5, .int a1, .int a2, .ref cd, .int (nI cc_3), .int re_8]))) := sm.flds e_30 (smF.c (smV.rf _) (smF.c (smV.rf _) (smF.c (smV.rf _) (smF.c (smV.rf _) (smF.c (smV.i _ _) (smF.c (smV.rf _) (smF.c (smV.rf _) (smF.c (smV.rf _) (rfl))))))))) (List.mem_singleton.mpr rfl)
  have e_38 : (ws_28.set krd (rd, .inr (4, [.ref tp, .long ra_4, .int rb_5, .int a1, .int a2, .ref cd, .int (nI cc_3), .int re_8])))[krd]? = some (rd, .inr (4, [.ref tp, .long ra_4, .int rb_5, .int a1, .int a2, .ref cd, .int (nI cc_3), .int re_8])) := wset_self e_30
  generalize ws_28.set krd (rd, .inr (4, [.ref tp, .long ra_4, .int rb_5, .int a1, .int a2, .ref cd, .int (nI cc_3), .int re_8])) = ws_36 at hP hD hm_37 e_38
  have e_39 := hm_37.objK e_31 (by decide)
  obtain ⟨f_41, e_40⟩ := hm_37.arrI e_32
  obtain ⟨f_43, e_42⟩ := hm_37.arrI e_34
  have hsm := hsm.tr (hm_37.mono (by decide))
  refine lv_iconst (v := 0) hx hb dX4_failAt_10 (by decide) ?_
  exact W.zret (v := 0) hx hb hr rfl (fun t ht hW => ⟨⟨0, (), rfl, rfl, ws_36, tys, hsm, htx, by rw [ht]; exact hP, va_K.moved hW.alike hK, hD, (⟨ts_1, te_2, cc_3, ra_4, rb_5, a1, a2, re_8, ya_9, by omega, by omega, by omega, by omega, e_38, e_39, ⟨k_16, c9_17, t_18, f_41, e_40, u_21⟩, ⟨k_22, c9_23, t_24, f_43, e_42, u_27⟩⟩ : RS ws_36 tys rd krd tp ktp cd bb tl)⟩, hS.F ht⟩) hS.2.2 dX4_failAt_11
set_option maxHeartbeats 4000000 in
set_option maxRecDepth 100000 in
theorem r_failHere (l : Launch) (D : va_G) (ws : va_W) (tys : List (ClassId × FieldType)) (adK adV : Nat → Nat) (fo : Option Nat) (rd krd tp ktp cd bb tl : Nat)  (sz : Nat) (R0 : RS ws tys rd krd tp ktp cd bb tl)  : Met l yX4_failHere wsX4_failHere ({ frames := 1, cells := 0, slots := 0, locals := 22 }) (va_Pc [.ref rd] (fun U => U.heap.size = sz ∧ va_P D vwCl ws U.heap ∧ va_K D vwCl tys U ∧ va_D (fun _ => True) ws ∧ SZ adK adV fo (va_A ws sz) U U.heap)) (va_Qi (fun (r : Int32) (_ : Unit) => r = 0) (fun (_ : Unit) (t : State) => ∃ (ws' : va_W) (tys' : List (ClassId × FieldType)), sm [4, 6] ws ws' ∧ tyx tys tys' ∧ va_P D vwCl ws' t.heap ∧ va_K D vwCl tys' t ∧ va_D (va_A ws sz) ws' ∧ RS ws' tys' rd krd tp ktp cd bb tl) (va_A ws sz)) 0 0 (va_A ws sz) := by
  refine Met.ofW (cc := cX4_failHere) (maxL := 1) (ret := (some .boolean)) (by decide) rfl ?_
  intro p e s m args below meth c s₁ B hml hv
  obtain ⟨rfl, hsz, hP, hK, hD0, hsz9⟩ := hv
  have hx := B.exec
  have hb := B.bytes
  have hr := B.returns
  have hts := atoms_spec (ws := wsX4_failHere) B.pre
  have hown : s.vm.findClass RX4 = some m.cls := findClass_of_methodNamed B.named
  have hlocks := B.notSynchronized
  subst hsz
  have hD := hD0.self (sz := s.heap.size)
  generalize hAe : va_A ws s.heap.size = A at hD hsz9 ⊢
  have hA : ∀ q : Nat, s.heap.size ≤ q → A q := fun q h => by rw [← hAe]; exact Or.inr h
  have hS : va_S A s.heap s.heap [] := va_S.rf
  have hsm : sm [4, 6] ws ws := sm.rf ws
  have htx : tyx tys tys := tyx.rf tys
  have hin4 : ∀ w ∈ u_ws RX4 TX4 8, w ∈ wsX4_failHere := (fun _ h9 => List.mem_cons_of_mem _ (List.mem_append_left _ ((List.mem_append_right _ h9))))
  have hin6 : ∀ w ∈ u_ws RX6 TX6 5, w ∈ wsX4_failHere := (fun _ h9 => List.mem_cons_of_mem _ ((List.mem_append_right _ h9)))
  have hl := lv_entry ([.ref rd]) (n := 1) (Nat.le_of_ble_eq_true rfl)
  rw [lg_entry_eq]
  generalize (lg_sl ([.ref rd]) ++ List.replicate (1 - (lg_sl ([.ref rd])).length) Slot.unset).toArray = ls at hl ⊢
  have hl : lv_has ls 1 [(0, .ref rd)] := hl
  obtain ⟨ts_1, te_2, cc_3, ra_4, rb_5, rc_6, rv_7, re_8, ya_9, h1_10, h2_11, h3_12, h4_13, er_14, et_15, ⟨k_16, c9_17, t_18, f_19, e_20, u_21⟩, ⟨k_22, c9_23, t_24, f_25, e_26, u_27⟩⟩ := id R0
  refine lv_aload_n hx hb dX4_failHere_0 rfl (lv_at hl 0 rfl) ?_
  refine lv_iconst (v := 1) hx hb dX4_failHere_1 (by decide) ?_
  refine lv_aload_n hx hb dX4_failHere_2 rfl (lv_at hl 0 rfl) ?_
  refine va_get (D := D) (ci := 4) (v := .ref tp) (C := RX4) (T := TX4) (N := 8) hx hb hts hin4 hown hK hP krd er_14 rfl 0 (by decide) (hts (.fieldLink RX4 12 "HoneyHouse$RuleReader" "tape" "LHoneyHouse$Tape;") (List.mem_of_getElem? (i := 1) rfl)) (fun _ h9 => h9) rfl dX4_failHere_3 ?_
  refine va_get (D := D) (ci := 6) (v := .int (nI ts_1)) (C := RX6) (T := TX6) (N := 5) hx hb hts hin6 hown hK hP ktp et_15 rfl 2 (by decide) (hts (.fieldLink RX4 73 "HoneyHouse$Tape" "start" "I") (List.mem_of_getElem? (i := 2) rfl)) (fun _ h9 => h9) rfl dX4_failHere_6 ?_
  have hFc := free_all hD hS hA
  refine va_calli (va_runV (As := [.int 1, .int (nI ts_1)]) (rest := []) ⟨hx, hb, hml, hown, hts⟩ (r_failAt l D ws tys adK adV fo rd krd tp ktp cd bb tl 1 (nI ts_1) s.heap.size (⟨ts_1, te_2, cc_3, ra_4, rb_5, rc_6, rv_7, re_8, ya_9, by omega, by omega, by omega, by omega, er_14, et_15, ⟨k_16, c9_17, t_18, f_19, e_20, u_21⟩, ⟨k_22, c9_23, t_24, f_25, e_26, u_27⟩⟩ : RS ws tys rd krd tp ktp cd bb tl)) (cwV 2 hts gX4_failHere_X4_failAt rfl rfl rfl (by decide +kernel) ⟨Nat.le_of_ble_eq_true rfl, Nat.le_of_ble_eq_true rfl⟩) ⟨fun a U g mk q => by obtain ⟨q0, q1, qP, qK, qD, qS⟩ := q; exact ⟨q0, q1, qP, va_K.moved (u := U) (U := U.calling g mk a) (Vm.Alike.refl U.vm) qK, qD, SZ.same rfl rfl qS⟩, va_recv hK hP (ci := 4) (q0 := krd) rfl er_14, fun U hU hW => ⟨rfl, by rw [hU], by rw [hU]; exact hP, va_K.moved hW.alike hK, hD.weaken (fun _ _ _ _ => trivial), hsz9.go hS hW hU hFc⟩⟩ rfl rfl hl.1 rfl (lv_room (Nat.le_of_ble_eq_true rfl)) dX4_failHere_9 ⟨Nat.le_of_ble_eq_true rfl, Nat.le_of_ble_eq_true rfl⟩) hS (fun q _ h => hFc q h) hFc (fun r_28 u t H1 locs ht hvm w_29 hB hz1 hk1 hS => ?_)
  obtain ⟨ws_30, ty_31, hm_32, ht_34, hP1, hK1, hD1, hx_33⟩ := hB
  rw [ht] at hP1
  have hK := va_K.moved hvm.symm hK1
  have hD := hD1.weaken (fun _ _ _ h => hFc _ h)
  generalize H1 = H at hP1 hS ⊢
  have hP := hP1
  obtain ⟨g_36, e_35, h_37⟩ := hm_32.obj er_14
  obtain ⟨z_38, z_39, z_40, z_41, z_42, z_43, rfl⟩ := smX4 h_37
  obtain ⟨g_45, e_44, h_46⟩ := hm_32.obj et_15
  obtain ⟨z_47, z_48, z_49, z_50, rfl⟩ := smX6 h_46
  obtain ⟨f_52, e_51⟩ := hm_32.arrI e_20
  have u_53 := ht_34 _ _ u_21
  obtain ⟨f_55, e_54⟩ := hm_32.arrI e_26
  have u_56 := ht_34 _ _ u_27
  have hsm := hsm.tr (hm_32.mono (by decide))
  have htx := htx.tr ht_34
  obtain ⟨ts_57, te_58, cc_59, ra_60, rb_61, rc_62, rv_63, re_64, ya_65, h1_66, h2_67, h3_68, h4_69, er_70, et_71, ⟨k_72, c9_73, t_74, f_75, e_76, u_77⟩, ⟨k_78, c9_79, t_80, f_81, e_82, u_83⟩⟩ := id hx_33
  subst w_29
  exact W.zret (v := 0) hx hb hr rfl (fun t ht hW => ⟨⟨0, (), rfl, rfl, ws_30, ty_31, hsm, htx, by rw [ht]; exact hP, va_K.moved hW.alike hK, hD, (⟨ts_57, te_58, cc_59, ra_60, rb_61, rc_62, rv_63, re_64, ya_65, by omega, by omega, by omega, by omega, er_70, et_71, ⟨k_72, c9_73, t_74, f_75, e_76, u_77⟩, ⟨k_78, c9_79, t_80, f_81, e_82, u_83⟩⟩ : RS ws_30 ty_31 rd krd tp ktp cd bb tl)⟩, hS.F ht⟩) hS.2.2 dX4_failHere_12
set_option maxHeartbeats 4000000 in
set_option maxRecDepth 100000 in
theorem r_measureNamed (l : Launch) (D : va_G) (ws : va_W) (tys : List (ClassId × FieldType)) (adK adV : Nat → Nat) (fo : Option Nat) (rd krd tp ktp cd bb tl : Nat)  (sz : Nat) (R0 : RS ws tys rd krd tp ktp cd bb tl)  : Met l yX4_measureNamed wsX4_measureNamed ({ frames := 5, cells := 0, slots := 0, locals := 107 }) (va_Pc [.ref rd] (fun U => U.heap.size = sz ∧ va_P D vwCl ws U.heap ∧ va_K D vwCl tys U ∧ va_D (fun _ => True) ws ∧ SZ adK adV fo (va_A ws sz) U U.heap)) (va_Qi (fun (r : Int32) (_ : Unit) => True) (fun (_ : Unit) (t : State) => ∃ (ws' : va_W) (tys' : List (ClassId × FieldType)), sm [] ws ws' ∧ tyx tys tys' ∧ va_P D vwCl ws' t.heap ∧ va_K D vwCl tys' t ∧ va_D (va_A ws sz) ws' ∧ True) (va_A ws sz)) 0 0 (va_A ws sz) := by
  refine Met.ofW (cc := cX4_measureNamed) (maxL := 1) (ret := (some .int)) (by decide) rfl ?_
  intro p e s m args below meth c s₁ B hml hv
  obtain ⟨rfl, hsz, hP, hK, hD0, hsz9⟩ := hv
  have hx := B.exec
  have hb := B.bytes
  have hr := B.returns
  have hts := atoms_spec (ws := wsX4_measureNamed) B.pre
  have hown : s.vm.findClass RX4 = some m.cls := findClass_of_methodNamed B.named
  have hlocks := B.notSynchronized
  subst hsz
  have hD := hD0.self (sz := s.heap.size)
  generalize hAe : va_A ws s.heap.size = A at hD hsz9 ⊢
  have hA : ∀ q : Nat, s.heap.size ≤ q → A q := fun q h => by rw [← hAe]; exact Or.inr h
  have hS : va_S A s.heap s.heap [] := va_S.rf
  have hsm : sm [] ws ws := sm.rf ws
  have htx : tyx tys tys := tyx.rf tys
  have hin4 : ∀ w ∈ u_ws RX4 TX4 8, w ∈ wsX4_measureNamed := (fun _ h9 => List.mem_cons_of_mem _ (List.mem_append_left _ ((List.mem_append_right _ h9))))
  have hl := lv_entry ([.ref rd]) (n := 1) (Nat.le_of_ble_eq_true rfl)
  rw [lg_entry_eq]
  generalize (lg_sl ([.ref rd]) ++ List.replicate (1 - (lg_sl ([.ref rd])).length) Slot.unset).toArray = ls at hl ⊢
  have hl : lv_has ls 1 [(0, .ref rd)] := hl
  obtain ⟨ts_1, te_2, cc_3, ra_4, rb_5, rc_6, rv_7, re_8, ya_9, h1_10, h2_11, h3_12, h4_13, er_14, et_15, ⟨k_16, c9_17, t_18, f_19, e_20, u_21⟩, ⟨k_22, c9_23, t_24, f_25, e_26, u_27⟩⟩ := id R0
  refine lv_aload_n hx hb dX4_measureNamed_0 rfl (lv_at hl 0 rfl) ?_
  refine va_get (D := D) (ci := 4) (v := .ref tp) (C := RX4) (T := TX4) (N := 8) hx hb hts hin4 hown hK hP krd er_14 rfl 0 (by decide) (hts (.fieldLink RX4 12 "HoneyHouse$RuleReader" "tape" "LHoneyHouse$Tape;") (List.mem_of_getElem? (i := 1) rfl)) (fun _ h9 => h9) rfl dX4_measureNamed_1 ?_
  refine va_ldcS hx hb hown hsz9.2.2.2.2.2.2.2.2.2.1 dX4_measureNamed_4 ?_
  have hFc := free_all hD hS hA
  refine va_calli (va_runV (As := [.ref (adK 6)]) (rest := []) ⟨hx, hb, hml, hown, hts⟩ (a_isWord l D ws tys adK adV fo 6 tp ktp tl ya_9 (nI ts_1) (nI te_2) bb k_22 c9_23 t_24 f_25 s.heap.size (by decide) et_15 e_26 u_27) (cwV 1 hts gX4_measureNamed_X6_isWord rfl rfl rfl (by decide +kernel) ⟨Nat.le_of_ble_eq_true rfl, Nat.le_of_ble_eq_true rfl⟩) ⟨fun a U g mk q => by obtain ⟨q0, q1, qP, qK, qD, qS⟩ := q; exact ⟨q0, q1, qP, va_K.moved (u := U) (U := U.calling g mk a) (Vm.Alike.refl U.vm) qK, qD, SZ.same rfl rfl qS⟩, va_recv hK hP (ci := 6) (q0 := ktp) rfl et_15, fun U hU hW => ⟨rfl, by rw [hU], by rw [hU]; exact hP, va_K.moved hW.alike hK, hD.weaken (fun _ _ _ _ => trivial), hsz9.go hS hW hU hFc⟩⟩ rfl rfl hl.1 rfl (lv_room (Nat.le_of_ble_eq_true rfl)) dX4_measureNamed_6 ⟨Nat.le_of_ble_eq_true rfl, Nat.le_of_ble_eq_true rfl⟩) hS (fun q _ h => hFc q h) hFc (fun r_28 u t H1 locs ht hvm w_29 hB hz1 hk1 hS => ?_)
  obtain ⟨ws_30, ty_31, hm_32, ht_34, hP1, hK1, hD1, hx_33⟩ := hB
  rw [ht] at hP1
  have hK := va_K.moved hvm.symm hK1
  have hD := hD1.weaken (fun _ _ _ h => hFc _ h)
  generalize H1 = H at hP1 hS ⊢
  have hP := hP1
  have e_35 := hm_32.objK er_14 (by decide)
  have e_36 := hm_32.objK et_15 (by decide)
  obtain ⟨f_38, e_37⟩ := hm_32.arrI e_20
  have u_39 := ht_34 _ _ u_21
  obtain ⟨f_41, e_40⟩ := hm_32.arrI e_26
  have u_42 := ht_34 _ _ u_27
  have hsm := hsm.tr (hm_32.mono (by decide))
  have htx := htx.tr ht_34
  rcases w_29 with rfl | rfl
  · refine lv_if_eq (tgt := 14) hx hb dX4_measureNamed_9 (by decide) (fun c_43 => ?_) (fun c_43 => absurd (by decide) c_43)
    refine lv_aload_n hx hb dX4_measureNamed_14 rfl (lv_at hl 0 rfl) ?_
    refine va_get (D := D) (ci := 4) (v := .ref tp) (C := RX4) (T := TX4) (N := 8) hx hb hts hin4 hown hK hP krd e_35 rfl 0 (by decide) (hts (.fieldLink RX4 12 "HoneyHouse$RuleReader" "tape" "LHoneyHouse$Tape;") (List.mem_of_getElem? (i := 1) rfl)) (fun _ h9 => h9) rfl dX4_measureNamed_15 ?_
    refine va_ldcS hx hb hown hsz9.2.2.2.2.2.2.2.2.2.2.1 dX4_measureNamed_18 ?_
    have hFc := free_all hD hS hA
    refine va_calli (va_runV (As := [.ref (adK 7)]) (rest := []) ⟨hx, hb, hml, hown, hts⟩ (a_isWord l D ws_30 ty_31 adK adV fo 7 tp ktp tl ya_9 (nI ts_1) (nI te_2) bb k_22 c9_23 t_24 f_41 H.size (by decide) e_36 e_40 u_42) (cwV 1 hts gX4_measureNamed_X6_isWord rfl rfl rfl (by decide +kernel) ⟨Nat.le_of_ble_eq_true rfl, Nat.le_of_ble_eq_true rfl⟩) ⟨fun a U g mk q => by obtain ⟨q0, q1, qP, qK, qD, qS⟩ := q; exact ⟨q0, q1, qP, va_K.moved (u := U) (U := U.calling g mk a) (Vm.Alike.refl U.vm) qK, qD, SZ.same rfl rfl qS⟩, va_recv hK hP (ci := 6) (q0 := ktp) rfl e_36, fun U hU hW => ⟨rfl, by rw [hU], by rw [hU]; exact hP, va_K.moved hW.alike hK, hD.weaken (fun _ _ _ _ => trivial), hsz9.go hS hW hU hFc⟩⟩ rfl rfl hl.1 rfl (lv_room (Nat.le_of_ble_eq_true rfl)) dX4_measureNamed_20 ⟨Nat.le_of_ble_eq_true rfl, Nat.le_of_ble_eq_true rfl⟩) hS (fun q _ h => hFc q h) hFc (fun r_44 u t H1 locs ht hvm w_45 hB hz1 hk1 hS => ?_)
    obtain ⟨ws_46, ty_47, hm_48, ht_50, hP1, hK1, hD1, hx_49⟩ := hB
    rw [ht] at hP1
    have hK := va_K.moved hvm.symm hK1
    have hD := hD1.weaken (fun _ _ _ h => hFc _ h)
    generalize H1 = H at hP1 hS ⊢
    have hP := hP1
    have e_51 := hm_48.objK e_35 (by decide)
    have e_52 := hm_48.objK e_36 (by decide)
    obtain ⟨f_54, e_53⟩ := hm_48.arrI e_37
    have u_55 := ht_50 _ _ u_39
    obtain ⟨f_57, e_56⟩ := hm_48.arrI e_40
    have u_58 := ht_50 _ _ u_42
    have hsm := hsm.tr (hm_48.mono (by decide))
    have htx := htx.tr ht_50
    rcases w_45 with rfl | rfl
    · refine lv_if_eq (tgt := 28) hx hb dX4_measureNamed_23 (by decide) (fun c_59 => ?_) (fun c_59 => absurd (by decide) c_59)
      refine lv_aload_n hx hb dX4_measureNamed_28 rfl (lv_at hl 0 rfl) ?_
      refine va_get (D := D) (ci := 4) (v := .ref tp) (C := RX4) (T := TX4) (N := 8) hx hb hts hin4 hown hK hP krd e_51 rfl 0 (by decide) (hts (.fieldLink RX4 12 "HoneyHouse$RuleReader" "tape" "LHoneyHouse$Tape;") (List.mem_of_getElem? (i := 1) rfl)) (fun _ h9 => h9) rfl dX4_measureNamed_29 ?_
      refine va_ldcS hx hb hown hsz9.2.2.2.2.2.2.2.2.2.2.2.1 dX4_measureNamed_32 ?_
      have hFc := free_all hD hS hA
      refine va_calli (va_runV (As := [.ref (adK 8)]) (rest := []) ⟨hx, hb, hml, hown, hts⟩ (a_isWord l D ws_46 ty_47 adK adV fo 8 tp ktp tl ya_9 (nI ts_1) (nI te_2) bb k_22 c9_23 t_24 f_57 H.size (by decide) e_52 e_56 u_58) (cwV 1 hts gX4_measureNamed_X6_isWord rfl rfl rfl (by decide +kernel) ⟨Nat.le_of_ble_eq_true rfl, Nat.le_of_ble_eq_true rfl⟩) ⟨fun a U g mk q => by obtain ⟨q0, q1, qP, qK, qD, qS⟩ := q; exact ⟨q0, q1, qP, va_K.moved (u := U) (U := U.calling g mk a) (Vm.Alike.refl U.vm) qK, qD, SZ.same rfl rfl qS⟩, va_recv hK hP (ci := 6) (q0 := ktp) rfl e_52, fun U hU hW => ⟨rfl, by rw [hU], by rw [hU]; exact hP, va_K.moved hW.alike hK, hD.weaken (fun _ _ _ _ => trivial), hsz9.go hS hW hU hFc⟩⟩ rfl rfl hl.1 rfl (lv_room (Nat.le_of_ble_eq_true rfl)) dX4_measureNamed_34 ⟨Nat.le_of_ble_eq_true rfl, Nat.le_of_ble_eq_true rfl⟩) hS (fun q _ h => hFc q h) hFc (fun r_60 u t H1 locs ht hvm w_61 hB hz1 hk1 hS => ?_)
      obtain ⟨ws_62, ty_63, hm_64, ht_66, hP1, hK1, hD1, hx_65⟩ := hB
      rw [ht] at hP1
      have hK := va_K.moved hvm.symm hK1
      have hD := hD1.weaken (fun _ _ _ h => hFc _ h)
      generalize H1 = H at hP1 hS ⊢
      have hP := hP1
      have e_67 := hm_64.objK e_51 (by decide)
      have e_68 := hm_64.objK e_52 (by decide)
      obtain ⟨f_70, e_69⟩ := hm_64.arrI e_53
      have u_71 := ht_66 _ _ u_55
      obtain ⟨f_73, e_72⟩ := hm_64.arrI e_56
      have u_74 := ht_66 _ _ u_58
      have hsm := hsm.tr (hm_64.mono (by decide))
      have htx := htx.tr ht_66
      rcases w_61 with rfl | rfl
      · refine lv_if_eq (tgt := 42) hx hb dX4_measureNamed_37 (by decide) (fun c_75 => ?_) (fun c_75 => absurd (by decide) c_75)
        refine lv_aload_n hx hb dX4_measureNamed_42 rfl (lv_at hl 0 rfl) ?_
        refine va_get (D := D) (ci := 4) (v := .ref tp) (C := RX4) (T := TX4) (N := 8) hx hb hts hin4 hown hK hP krd e_67 rfl 0 (by decide) (hts (.fieldLink RX4 12 "HoneyHouse$RuleReader" "tape" "LHoneyHouse$Tape;") (List.mem_of_getElem? (i := 1) rfl)) (fun _ h9 => h9) rfl dX4_measureNamed_43 ?_
        refine va_ldcS hx hb hown hsz9.2.2.2.2.2.2.2.2.2.2.2.2.1 dX4_measureNamed_46 ?_
        have hFc := free_all hD hS hA
        refine va_calli (va_runV (As := [.ref (adK 9)]) (rest := []) ⟨hx, hb, hml, hown, hts⟩ (a_isWord l D ws_62 ty_63 adK adV fo 9 tp ktp tl ya_9 (nI ts_1) (nI te_2) bb k_22 c9_23 t_24 f_73 H.size (by decide) e_68 e_72 u_74) (cwV 1 hts gX4_measureNamed_X6_isWord rfl rfl rfl (by decide +kernel) ⟨Nat.le_of_ble_eq_true rfl, Nat.le_of_ble_eq_true rfl⟩) ⟨fun a U g mk q => by obtain ⟨q0, q1, qP, qK, qD, qS⟩ := q; exact ⟨q0, q1, qP, va_K.moved (u := U) (U := U.calling g mk a) (Vm.Alike.refl U.vm) qK, qD, SZ.same rfl rfl qS⟩, va_recv hK hP (ci := 6) (q0 := ktp) rfl e_68, fun U hU hW => ⟨rfl, by rw [hU], by rw [hU]; exact hP, va_K.moved hW.alike hK, hD.weaken (fun _ _ _ _ => trivial), hsz9.go hS hW hU hFc⟩⟩ rfl rfl hl.1 rfl (lv_room (Nat.le_of_ble_eq_true rfl)) dX4_measureNamed_48 ⟨Nat.le_of_ble_eq_true rfl, Nat.le_of_ble_eq_true rfl⟩) hS (fun q _ h => hFc q h) hFc (fun r_76 u t H1 locs ht hvm w_77 hB hz1 hk1 hS => ?_)
        obtain ⟨ws_78, ty_79, hm_80, ht_82, hP1, hK1, hD1, hx_81⟩ := hB
        rw [ht] at hP1
        have hK := va_K.moved hvm.symm hK1
        have hD := hD1.weaken (fun _ _ _ h => hFc _ h)
        generalize H1 = H at hP1 hS ⊢
        have hP := hP1
        have e_83 := hm_80.objK e_67 (by decide)
        have e_84 := hm_80.objK e_68 (by decide)
        obtain ⟨f_86, e_85⟩ := hm_80.arrI e_69
        have u_87 := ht_82 _ _ u_71
        obtain ⟨f_89, e_88⟩ := hm_80.arrI e_72
        have u_90 := ht_82 _ _ u_74
        have hsm := hsm.tr (hm_80.mono (by decide))
        have htx := htx.tr ht_82
        rcases w_77 with rfl | rfl
        · refine lv_if_eq (tgt := 57) hx hb dX4_measureNamed_51 (by decide) (fun c_91 => ?_) (fun c_91 => absurd (by decide) c_91)
          refine lv_aload_n hx hb dX4_measureNamed_57 rfl (lv_at hl 0 rfl) ?_
          refine va_get (D := D) (ci := 4) (v := .ref tp) (C := RX4) (T := TX4) (N := 8) hx hb hts hin4 hown hK hP krd e_83 rfl 0 (by decide) (hts (.fieldLink RX4 12 "HoneyHouse$RuleReader" "tape" "LHoneyHouse$Tape;") (List.mem_of_getElem? (i := 1) rfl)) (fun _ h9 => h9) rfl dX4_measureNamed_58 ?_
          refine va_ldcS hx hb hown hsz9.2.2.2.2.2.2.2.2.2.2.2.2.2 dX4_measureNamed_61 ?_
          have hFc := free_all hD hS hA
          refine va_calli (va_runV (As := [.ref (adK 10)]) (rest := []) ⟨hx, hb, hml, hown, hts⟩ (a_isWord l D ws_78 ty_79 adK adV fo 10 tp ktp tl ya_9 (nI ts_1) (nI te_2) bb k_22 c9_23 t_24 f_89 H.size (by decide) e_84 e_88 u_90) (cwV 1 hts gX4_measureNamed_X6_isWord rfl rfl rfl (by decide +kernel) ⟨Nat.le_of_ble_eq_true rfl, Nat.le_of_ble_eq_true rfl⟩) ⟨fun a U g mk q => by obtain ⟨q0, q1, qP, qK, qD, qS⟩ := q; exact ⟨q0, q1, qP, va_K.moved (u := U) (U := U.calling g mk a) (Vm.Alike.refl U.vm) qK, qD, SZ.same rfl rfl qS⟩, va_recv hK hP (ci := 6) (q0 := ktp) rfl e_84, fun U hU hW => ⟨rfl, by rw [hU], by rw [hU]; exact hP, va_K.moved hW.alike hK, hD.weaken (fun _ _ _ _ => trivial), hsz9.go hS hW hU hFc⟩⟩ rfl rfl hl.1 rfl (lv_room (Nat.le_of_ble_eq_true rfl)) dX4_measureNamed_63 ⟨Nat.le_of_ble_eq_true rfl, Nat.le_of_ble_eq_true rfl⟩) hS (fun q _ h => hFc q h) hFc (fun r_92 u t H1 locs ht hvm w_93 hB hz1 hk1 hS => ?_)
          obtain ⟨ws_94, ty_95, hm_96, ht_98, hP1, hK1, hD1, hx_97⟩ := hB
          rw [ht] at hP1
          have hK := va_K.moved hvm.symm hK1
          have hD := hD1.weaken (fun _ _ _ h => hFc _ h)
          generalize H1 = H at hP1 hS ⊢
          have hP := hP1
          have e_99 := hm_96.objK e_83 (by decide)
          have e_100 := hm_96.objK e_84 (by decide)
          obtain ⟨f_102, e_101⟩ := hm_96.arrI e_85
          have u_103 := ht_98 _ _ u_87
          obtain ⟨f_105, e_104⟩ := hm_96.arrI e_88
          have u_106 := ht_98 _ _ u_90
          have hsm := hsm.tr (hm_96.mono (by decide))
          have htx := htx.tr ht_98
          rcases w_93 with rfl | rfl
          · refine lv_if_eq (tgt := 74) hx hb dX4_measureNamed_66 (by decide) (fun c_107 => ?_) (fun c_107 => absurd (by decide) c_107)
            refine lv_iconst (v := (-1)) hx hb dX4_measureNamed_74 (by decide) ?_
            exact W.iret (v := (-1)) hx hb hr (fun t ht hW => ⟨⟨(-1), (), rfl, trivial, ws_94, ty_95, hsm, htx, by rw [ht]; exact hP, va_K.moved hW.alike hK, hD, trivial⟩, hS.F ht⟩) hS.2.2 dX4_measureNamed_75
          refine lv_if_eq (tgt := 74) hx hb dX4_measureNamed_66 (by decide) (fun c_108 => absurd c_108 (by decide)) (fun c_108 => ?_)
          refine lv_bipush (v := 30) hx hb dX4_measureNamed_69 (by decide) ?_
          refine lv_goto (tgt := 75) hx hb dX4_measureNamed_71 (by decide) ?_
          exact W.iret (v := 30) hx hb hr (fun t ht hW => ⟨⟨30, (), rfl, trivial, ws_94, ty_95, hsm, htx, by rw [ht]; exact hP, va_K.moved hW.alike hK, hD, trivial⟩, hS.F ht⟩) hS.2.2 dX4_measureNamed_75
        refine lv_if_eq (tgt := 57) hx hb dX4_measureNamed_51 (by decide) (fun c_109 => absurd c_109 (by decide)) (fun c_109 => ?_)
        refine lv_bipush (v := 10) hx hb dX4_measureNamed_54 (by decide) ?_
        exact W.iret (v := 10) hx hb hr (fun t ht hW => ⟨⟨10, (), rfl, trivial, ws_78, ty_79, hsm, htx, by rw [ht]; exact hP, va_K.moved hW.alike hK, hD, trivial⟩, hS.F ht⟩) hS.2.2 dX4_measureNamed_56
      refine lv_if_eq (tgt := 42) hx hb dX4_measureNamed_37 (by decide) (fun c_110 => absurd c_110 (by decide)) (fun c_110 => ?_)
      refine lv_iconst (v := 2) hx hb dX4_measureNamed_40 (by decide) ?_
      exact W.iret (v := 2) hx hb hr (fun t ht hW => ⟨⟨2, (), rfl, trivial, ws_62, ty_63, hsm, htx, by rw [ht]; exact hP, va_K.moved hW.alike hK, hD, trivial⟩, hS.F ht⟩) hS.2.2 dX4_measureNamed_41
    refine lv_if_eq (tgt := 28) hx hb dX4_measureNamed_23 (by decide) (fun c_111 => absurd c_111 (by decide)) (fun c_111 => ?_)
    refine lv_iconst (v := 1) hx hb dX4_measureNamed_26 (by decide) ?_
    exact W.iret (v := 1) hx hb hr (fun t ht hW => ⟨⟨1, (), rfl, trivial, ws_46, ty_47, hsm, htx, by rw [ht]; exact hP, va_K.moved hW.alike hK, hD, trivial⟩, hS.F ht⟩) hS.2.2 dX4_measureNamed_27
  refine lv_if_eq (tgt := 14) hx hb dX4_measureNamed_9 (by decide) (fun c_112 => absurd c_112 (by decide)) (fun c_112 => ?_)
  refine lv_iconst (v := 0) hx hb dX4_measureNamed_12 (by decide) ?_
  exact W.iret (v := 0) hx hb hr (fun t ht hW => ⟨⟨0, (), rfl, trivial, ws_30, ty_31, hsm, htx, by rw [ht]; exact hP, va_K.moved hW.alike hK, hD, trivial⟩, hS.F ht⟩) hS.2.2 dX4_measureNamed_13
set_option maxHeartbeats 4000000 in
set_option maxRecDepth 100000 in
theorem r_isAndOr (l : Launch) (D : va_G) (ws : va_W) (tys : List (ClassId × FieldType)) (adK adV : Nat → Nat) (fo : Option Nat) (rd krd tp ktp cd bb tl : Nat)  (sz : Nat) (R0 : RS ws tys rd krd tp ktp cd bb tl)  : Met l yX4_isAndOr wsX4_isAndOr ({ frames := 5, cells := 0, slots := 0, locals := 107 }) (va_Pc [.ref rd] (fun U => U.heap.size = sz ∧ va_P D vwCl ws U.heap ∧ va_K D vwCl tys U ∧ va_D (fun _ => True) ws ∧ SZ adK adV fo (va_A ws sz) U U.heap)) (va_Qi (fun (r : Int32) (_ : Unit) => r = 0 ∨ r = 1) (fun (_ : Unit) (t : State) => ∃ (ws' : va_W) (tys' : List (ClassId × FieldType)), sm [] ws ws' ∧ tyx tys tys' ∧ va_P D vwCl ws' t.heap ∧ va_K D vwCl tys' t ∧ va_D (va_A ws sz) ws' ∧ True) (va_A ws sz)) 0 0 (va_A ws sz) := by
  refine Met.ofW (cc := cX4_isAndOr) (maxL := 1) (ret := (some .boolean)) (by decide) rfl ?_
  intro p e s m args below meth c s₁ B hml hv
  obtain ⟨rfl, hsz, hP, hK, hD0, hsz9⟩ := hv
  have hx := B.exec
  have hb := B.bytes
  have hr := B.returns
  have hts := atoms_spec (ws := wsX4_isAndOr) B.pre
  have hown : s.vm.findClass RX4 = some m.cls := findClass_of_methodNamed B.named
  have hlocks := B.notSynchronized
  subst hsz
  have hD := hD0.self (sz := s.heap.size)
  generalize hAe : va_A ws s.heap.size = A at hD hsz9 ⊢
  have hA : ∀ q : Nat, s.heap.size ≤ q → A q := fun q h => by rw [← hAe]; exact Or.inr h
  have hS : va_S A s.heap s.heap [] := va_S.rf
  have hsm : sm [] ws ws := sm.rf ws
  have htx : tyx tys tys := tyx.rf tys
  have hin4 : ∀ w ∈ u_ws RX4 TX4 8, w ∈ wsX4_isAndOr := (fun _ h9 => List.mem_cons_of_mem _ (List.mem_append_left _ ((List.mem_append_right _ h9))))
  have hl := lv_entry ([.ref rd]) (n := 1) (Nat.le_of_ble_eq_true rfl)
  rw [lg_entry_eq]
  generalize (lg_sl ([.ref rd]) ++ List.replicate (1 - (lg_sl ([.ref rd])).length) Slot.unset).toArray = ls at hl ⊢
  have hl : lv_has ls 1 [(0, .ref rd)] := hl
  obtain ⟨ts_1, te_2, cc_3, ra_4, rb_5, rc_6, rv_7, re_8, ya_9, h1_10, h2_11, h3_12, h4_13, er_14, et_15, ⟨k_16, c9_17, t_18, f_19, e_20, u_21⟩, ⟨k_22, c9_23, t_24, f_25, e_26, u_27⟩⟩ := id R0
  refine lv_aload_n hx hb dX4_isAndOr_0 rfl (lv_at hl 0 rfl) ?_
  refine va_get (D := D) (ci := 4) (v := .ref tp) (C := RX4) (T := TX4) (N := 8) hx hb hts hin4 hown hK hP krd er_14 rfl 0 (by decide) (hts (.fieldLink RX4 12 "HoneyHouse$RuleReader" "tape" "LHoneyHouse$Tape;") (List.mem_of_getElem? (i := 1) rfl)) (fun _ h9 => h9) rfl dX4_isAndOr_1 ?_
  refine va_ldcS hx hb hown hsz9.2.2.2.2.2.1 dX4_isAndOr_4 ?_
  have hFc := free_all hD hS hA
  refine va_calli (va_runV (As := [.ref (adK 2)]) (rest := []) ⟨hx, hb, hml, hown, hts⟩ (a_isWord l D ws tys adK adV fo 2 tp ktp tl ya_9 (nI ts_1) (nI te_2) bb k_22 c9_23 t_24 f_25 s.heap.size (by decide) et_15 e_26 u_27) (cwV 1 hts gX4_isAndOr_X6_isWord rfl rfl rfl (by decide +kernel) ⟨Nat.le_of_ble_eq_true rfl, Nat.le_of_ble_eq_true rfl⟩) ⟨fun a U g mk q => by obtain ⟨q0, q1, qP, qK, qD, qS⟩ := q; exact ⟨q0, q1, qP, va_K.moved (u := U) (U := U.calling g mk a) (Vm.Alike.refl U.vm) qK, qD, SZ.same rfl rfl qS⟩, va_recv hK hP (ci := 6) (q0 := ktp) rfl et_15, fun U hU hW => ⟨rfl, by rw [hU], by rw [hU]; exact hP, va_K.moved hW.alike hK, hD.weaken (fun _ _ _ _ => trivial), hsz9.go hS hW hU hFc⟩⟩ rfl rfl hl.1 rfl (lv_room (Nat.le_of_ble_eq_true rfl)) dX4_isAndOr_6 ⟨Nat.le_of_ble_eq_true rfl, Nat.le_of_ble_eq_true rfl⟩) hS (fun q _ h => hFc q h) hFc (fun r_28 u t H1 locs ht hvm w_29 hB hz1 hk1 hS => ?_)
  obtain ⟨ws_30, ty_31, hm_32, ht_34, hP1, hK1, hD1, hx_33⟩ := hB
  rw [ht] at hP1
  have hK := va_K.moved hvm.symm hK1
  have hD := hD1.weaken (fun _ _ _ h => hFc _ h)
  generalize H1 = H at hP1 hS ⊢
  have hP := hP1
  have e_35 := hm_32.objK er_14 (by decide)
  have e_36 := hm_32.objK et_15 (by decide)
  obtain ⟨f_38, e_37⟩ := hm_32.arrI e_20
  have u_39 := ht_34 _ _ u_21
  obtain ⟨f_41, e_40⟩ := hm_32.arrI e_26
  have u_42 := ht_34 _ _ u_27
  have hsm := hsm.tr (hm_32.mono (by decide))
  have htx := htx.tr ht_34
  rcases w_29 with rfl | rfl
  · refine lv_if_ne (tgt := 24) hx hb dX4_isAndOr_9 (by decide) (fun c_43 => absurd (by decide) c_43) (fun c_43 => ?_)
    refine lv_aload_n hx hb dX4_isAndOr_12 rfl (lv_at hl 0 rfl) ?_
    refine va_get (D := D) (ci := 4) (v := .ref tp) (C := RX4) (T := TX4) (N := 8) hx hb hts hin4 hown hK hP krd e_35 rfl 0 (by decide) (hts (.fieldLink RX4 12 "HoneyHouse$RuleReader" "tape" "LHoneyHouse$Tape;") (List.mem_of_getElem? (i := 1) rfl)) (fun _ h9 => h9) rfl dX4_isAndOr_13 ?_
    refine va_ldcS hx hb hown hsz9.2.2.2.2.1 dX4_isAndOr_16 ?_
    have hFc := free_all hD hS hA
    refine va_calli (va_runV (As := [.ref (adK 1)]) (rest := []) ⟨hx, hb, hml, hown, hts⟩ (a_isWord l D ws_30 ty_31 adK adV fo 1 tp ktp tl ya_9 (nI ts_1) (nI te_2) bb k_22 c9_23 t_24 f_41 H.size (by decide) e_36 e_40 u_42) (cwV 1 hts gX4_isAndOr_X6_isWord rfl rfl rfl (by decide +kernel) ⟨Nat.le_of_ble_eq_true rfl, Nat.le_of_ble_eq_true rfl⟩) ⟨fun a U g mk q => by obtain ⟨q0, q1, qP, qK, qD, qS⟩ := q; exact ⟨q0, q1, qP, va_K.moved (u := U) (U := U.calling g mk a) (Vm.Alike.refl U.vm) qK, qD, SZ.same rfl rfl qS⟩, va_recv hK hP (ci := 6) (q0 := ktp) rfl e_36, fun U hU hW => ⟨rfl, by rw [hU], by rw [hU]; exact hP, va_K.moved hW.alike hK, hD.weaken (fun _ _ _ _ => trivial), hsz9.go hS hW hU hFc⟩⟩ rfl rfl hl.1 rfl (lv_room (Nat.le_of_ble_eq_true rfl)) dX4_isAndOr_18 ⟨Nat.le_of_ble_eq_true rfl, Nat.le_of_ble_eq_true rfl⟩) hS (fun q _ h => hFc q h) hFc (fun r_44 u t H1 locs ht hvm w_45 hB hz1 hk1 hS => ?_)
    obtain ⟨ws_46, ty_47, hm_48, ht_50, hP1, hK1, hD1, hx_49⟩ := hB
    rw [ht] at hP1
    have hK := va_K.moved hvm.symm hK1
    have hD := hD1.weaken (fun _ _ _ h => hFc _ h)
    generalize H1 = H at hP1 hS ⊢
    have hP := hP1
    have e_51 := hm_48.objK e_35 (by decide)
    have e_52 := hm_48.objK e_36 (by decide)
    obtain ⟨f_54, e_53⟩ := hm_48.arrI e_37
    have u_55 := ht_50 _ _ u_39
    obtain ⟨f_57, e_56⟩ := hm_48.arrI e_40
    have u_58 := ht_50 _ _ u_42
    have hsm := hsm.tr (hm_48.mono (by decide))
    have htx := htx.tr ht_50
    rcases w_45 with rfl | rfl
    · refine lv_if_eq (tgt := 28) hx hb dX4_isAndOr_21 (by decide) (fun c_59 => ?_) (fun c_59 => absurd (by decide) c_59)
      refine lv_iconst (v := 0) hx hb dX4_isAndOr_28 (by decide) ?_
      exact W.zret (v := 0) hx hb hr rfl (fun t ht hW => ⟨⟨0, (), rfl, Or.inl rfl, ws_46, ty_47, hsm, htx, by rw [ht]; exact hP, va_K.moved hW.alike hK, hD, trivial⟩, hS.F ht⟩) hS.2.2 dX4_isAndOr_29
    refine lv_if_eq (tgt := 28) hx hb dX4_isAndOr_21 (by decide) (fun c_60 => absurd c_60 (by decide)) (fun c_60 => ?_)
    refine lv_iconst (v := 1) hx hb dX4_isAndOr_24 (by decide) ?_
    refine lv_goto (tgt := 29) hx hb dX4_isAndOr_25 (by decide) ?_
    exact W.zret (v := 1) hx hb hr rfl (fun t ht hW => ⟨⟨1, (), rfl, Or.inr rfl, ws_46, ty_47, hsm, htx, by rw [ht]; exact hP, va_K.moved hW.alike hK, hD, trivial⟩, hS.F ht⟩) hS.2.2 dX4_isAndOr_29
  refine lv_if_ne (tgt := 24) hx hb dX4_isAndOr_9 (by decide) (fun c_61 => ?_) (fun c_61 => absurd c_61 (by decide))
  refine lv_iconst (v := 1) hx hb dX4_isAndOr_24 (by decide) ?_
  refine lv_goto (tgt := 29) hx hb dX4_isAndOr_25 (by decide) ?_
  exact W.zret (v := 1) hx hb hr rfl (fun t ht hW => ⟨⟨1, (), rfl, Or.inr rfl, ws_30, ty_31, hsm, htx, by rw [ht]; exact hP, va_K.moved hW.alike hK, hD, trivial⟩, hS.F ht⟩) hS.2.2 dX4_isAndOr_29
set_option maxHeartbeats 4000000 in
set_option maxRecDepth 100000 in
theorem r_isKeptWord (l : Launch) (D : va_G) (ws : va_W) (tys : List (ClassId × FieldType)) (adK adV : Nat → Nat) (fo : Option Nat) (rd krd tp ktp cd bb tl : Nat)  (sz : Nat) (R0 : RS ws tys rd krd tp ktp cd bb tl)  : Met l yX4_isKeptWord wsX4_isKeptWord ({ frames := 6, cells := 0, slots := 0, locals := 127 }) (va_Pc [.ref rd] (fun U => U.heap.size = sz ∧ va_P D vwCl ws U.heap ∧ va_K D vwCl tys U ∧ va_D (fun _ => True) ws ∧ SZ adK adV fo (va_A ws sz) U U.heap)) (va_Qi (fun (r : Int32) (_ : Unit) => r = 0 ∨ r = 1) (fun (_ : Unit) (t : State) => ∃ (ws' : va_W) (tys' : List (ClassId × FieldType)), sm [] ws ws' ∧ tyx tys tys' ∧ va_P D vwCl ws' t.heap ∧ va_K D vwCl tys' t ∧ va_D (va_A ws sz) ws' ∧ True) (va_A ws sz)) 0 0 (va_A ws sz) := by
  refine Met.ofW (cc := cX4_isKeptWord) (maxL := 1) (ret := (some .boolean)) (by decide) rfl ?_
  intro p e s m args below meth c s₁ B hml hv
  obtain ⟨rfl, hsz, hP, hK, hD0, hsz9⟩ := hv
  have hx := B.exec
  have hb := B.bytes
  have hr := B.returns
  have hts := atoms_spec (ws := wsX4_isKeptWord) B.pre
  have hown : s.vm.findClass RX4 = some m.cls := findClass_of_methodNamed B.named
  have hlocks := B.notSynchronized
  subst hsz
  have hD := hD0.self (sz := s.heap.size)
  generalize hAe : va_A ws s.heap.size = A at hD hsz9 ⊢
  have hA : ∀ q : Nat, s.heap.size ≤ q → A q := fun q h => by rw [← hAe]; exact Or.inr h
  have hS : va_S A s.heap s.heap [] := va_S.rf
  have hsm : sm [] ws ws := sm.rf ws
  have htx : tyx tys tys := tyx.rf tys
  have hin4 : ∀ w ∈ u_ws RX4 TX4 8, w ∈ wsX4_isKeptWord := (fun _ h9 => List.mem_cons_of_mem _ (List.mem_append_left _ ((List.mem_append_right _ h9))))
  have hl := lv_entry ([.ref rd]) (n := 1) (Nat.le_of_ble_eq_true rfl)
  rw [lg_entry_eq]
  generalize (lg_sl ([.ref rd]) ++ List.replicate (1 - (lg_sl ([.ref rd])).length) Slot.unset).toArray = ls at hl ⊢
  have hl : lv_has ls 1 [(0, .ref rd)] := hl
  obtain ⟨ts_1, te_2, cc_3, ra_4, rb_5, rc_6, rv_7, re_8, ya_9, h1_10, h2_11, h3_12, h4_13, er_14, et_15, ⟨k_16, c9_17, t_18, f_19, e_20, u_21⟩, ⟨k_22, c9_23, t_24, f_25, e_26, u_27⟩⟩ := id R0
  refine lv_aload_n hx hb dX4_isKeptWord_0 rfl (lv_at hl 0 rfl) ?_
  refine va_get (D := D) (ci := 4) (v := .ref tp) (C := RX4) (T := TX4) (N := 8) hx hb hts hin4 hown hK hP krd er_14 rfl 0 (by decide) (hts (.fieldLink RX4 12 "HoneyHouse$RuleReader" "tape" "LHoneyHouse$Tape;") (List.mem_of_getElem? (i := 1) rfl)) (fun _ h9 => h9) rfl dX4_isKeptWord_1 ?_
  refine va_ldcS hx hb hown hsz9.2.2.2.2.1 dX4_isKeptWord_4 ?_
  have hFc := free_all hD hS hA
  refine va_calli (va_runV (As := [.ref (adK 1)]) (rest := []) ⟨hx, hb, hml, hown, hts⟩ (a_isWord l D ws tys adK adV fo 1 tp ktp tl ya_9 (nI ts_1) (nI te_2) bb k_22 c9_23 t_24 f_25 s.heap.size (by decide) et_15 e_26 u_27) (cwV 1 hts gX4_isKeptWord_X6_isWord rfl rfl rfl (by decide +kernel) ⟨Nat.le_of_ble_eq_true rfl, Nat.le_of_ble_eq_true rfl⟩) ⟨fun a U g mk q => by obtain ⟨q0, q1, qP, qK, qD, qS⟩ := q; exact ⟨q0, q1, qP, va_K.moved (u := U) (U := U.calling g mk a) (Vm.Alike.refl U.vm) qK, qD, SZ.same rfl rfl qS⟩, va_recv hK hP (ci := 6) (q0 := ktp) rfl et_15, fun U hU hW => ⟨rfl, by rw [hU], by rw [hU]; exact hP, va_K.moved hW.alike hK, hD.weaken (fun _ _ _ _ => trivial), hsz9.go hS hW hU hFc⟩⟩ rfl rfl hl.1 rfl (lv_room (Nat.le_of_ble_eq_true rfl)) dX4_isKeptWord_6 ⟨Nat.le_of_ble_eq_true rfl, Nat.le_of_ble_eq_true rfl⟩) hS (fun q _ h => hFc q h) hFc (fun r_28 u t H1 locs ht hvm w_29 hB hz1 hk1 hS => ?_)
  obtain ⟨ws_30, ty_31, hm_32, ht_34, hP1, hK1, hD1, hx_33⟩ := hB
  rw [ht] at hP1
  have hK := va_K.moved hvm.symm hK1
  have hD := hD1.weaken (fun _ _ _ h => hFc _ h)
  generalize H1 = H at hP1 hS ⊢
  have hP := hP1
  have e_35 := hm_32.objK er_14 (by decide)
  have e_36 := hm_32.objK et_15 (by decide)
  obtain ⟨f_38, e_37⟩ := hm_32.arrI e_20
  have u_39 := ht_34 _ _ u_21
  obtain ⟨f_41, e_40⟩ := hm_32.arrI e_26
  have u_42 := ht_34 _ _ u_27
  have hsm := hsm.tr (hm_32.mono (by decide))
  have htx := htx.tr ht_34
  rcases w_29 with rfl | rfl
  · refine lv_if_ne (tgt := 80) hx hb dX4_isKeptWord_9 (by decide) (fun c_43 => absurd (by decide) c_43) (fun c_43 => ?_)
    refine lv_aload_n hx hb dX4_isKeptWord_12 rfl (lv_at hl 0 rfl) ?_
    refine va_get (D := D) (ci := 4) (v := .ref tp) (C := RX4) (T := TX4) (N := 8) hx hb hts hin4 hown hK hP krd e_35 rfl 0 (by decide) (hts (.fieldLink RX4 12 "HoneyHouse$RuleReader" "tape" "LHoneyHouse$Tape;") (List.mem_of_getElem? (i := 1) rfl)) (fun _ h9 => h9) rfl dX4_isKeptWord_13 ?_
    refine va_ldcS hx hb hown hsz9.2.2.2.2.2.1 dX4_isKeptWord_16 ?_
    have hFc := free_all hD hS hA
    refine va_calli (va_runV (As := [.ref (adK 2)]) (rest := []) ⟨hx, hb, hml, hown, hts⟩ (a_isWord l D ws_30 ty_31 adK adV fo 2 tp ktp tl ya_9 (nI ts_1) (nI te_2) bb k_22 c9_23 t_24 f_41 H.size (by decide) e_36 e_40 u_42) (cwV 1 hts gX4_isKeptWord_X6_isWord rfl rfl rfl (by decide +kernel) ⟨Nat.le_of_ble_eq_true rfl, Nat.le_of_ble_eq_true rfl⟩) ⟨fun a U g mk q => by obtain ⟨q0, q1, qP, qK, qD, qS⟩ := q; exact ⟨q0, q1, qP, va_K.moved (u := U) (U := U.calling g mk a) (Vm.Alike.refl U.vm) qK, qD, SZ.same rfl rfl qS⟩, va_recv hK hP (ci := 6) (q0 := ktp) rfl e_36, fun U hU hW => ⟨rfl, by rw [hU], by rw [hU]; exact hP, va_K.moved hW.alike hK, hD.weaken (fun _ _ _ _ => trivial), hsz9.go hS hW hU hFc⟩⟩ rfl rfl hl.1 rfl (lv_room (Nat.le_of_ble_eq_true rfl)) dX4_isKeptWord_18 ⟨Nat.le_of_ble_eq_true rfl, Nat.le_of_ble_eq_true rfl⟩) hS (fun q _ h => hFc q h) hFc (fun r_44 u t H1 locs ht hvm w_45 hB hz1 hk1 hS => ?_)
    obtain ⟨ws_46, ty_47, hm_48, ht_50, hP1, hK1, hD1, hx_49⟩ := hB
    rw [ht] at hP1
    have hK := va_K.moved hvm.symm hK1
    have hD := hD1.weaken (fun _ _ _ h => hFc _ h)
    generalize H1 = H at hP1 hS ⊢
    have hP := hP1
    have e_51 := hm_48.objK e_35 (by decide)
    have e_52 := hm_48.objK e_36 (by decide)
    obtain ⟨f_54, e_53⟩ := hm_48.arrI e_37
    have u_55 := ht_50 _ _ u_39
    obtain ⟨f_57, e_56⟩ := hm_48.arrI e_40
    have u_58 := ht_50 _ _ u_42
    have hsm := hsm.tr (hm_48.mono (by decide))
    have htx := htx.tr ht_50
    rcases w_45 with rfl | rfl
    · refine lv_if_ne (tgt := 80) hx hb dX4_isKeptWord_21 (by decide) (fun c_59 => absurd (by decide) c_59) (fun c_59 => ?_)
      refine lv_aload_n hx hb dX4_isKeptWord_24 rfl (lv_at hl 0 rfl) ?_
      refine va_get (D := D) (ci := 4) (v := .ref tp) (C := RX4) (T := TX4) (N := 8) hx hb hts hin4 hown hK hP krd e_51 rfl 0 (by decide) (hts (.fieldLink RX4 12 "HoneyHouse$RuleReader" "tape" "LHoneyHouse$Tape;") (List.mem_of_getElem? (i := 1) rfl)) (fun _ h9 => h9) rfl dX4_isKeptWord_25 ?_
      refine va_ldcS hx hb hown hsz9.2.2.2.2.2.2.1 dX4_isKeptWord_28 ?_
      have hFc := free_all hD hS hA
      refine va_calli (va_runV (As := [.ref (adK 3)]) (rest := []) ⟨hx, hb, hml, hown, hts⟩ (a_isWord l D ws_46 ty_47 adK adV fo 3 tp ktp tl ya_9 (nI ts_1) (nI te_2) bb k_22 c9_23 t_24 f_57 H.size (by decide) e_52 e_56 u_58) (cwV 1 hts gX4_isKeptWord_X6_isWord rfl rfl rfl (by decide +kernel) ⟨Nat.le_of_ble_eq_true rfl, Nat.le_of_ble_eq_true rfl⟩) ⟨fun a U g mk q => by obtain ⟨q0, q1, qP, qK, qD, qS⟩ := q; exact ⟨q0, q1, qP, va_K.moved (u := U) (U := U.calling g mk a) (Vm.Alike.refl U.vm) qK, qD, SZ.same rfl rfl qS⟩, va_recv hK hP (ci := 6) (q0 := ktp) rfl e_52, fun U hU hW => ⟨rfl, by rw [hU], by rw [hU]; exact hP, va_K.moved hW.alike hK, hD.weaken (fun _ _ _ _ => trivial), hsz9.go hS hW hU hFc⟩⟩ rfl rfl hl.1 rfl (lv_room (Nat.le_of_ble_eq_true rfl)) dX4_isKeptWord_30 ⟨Nat.le_of_ble_eq_true rfl, Nat.le_of_ble_eq_true rfl⟩) hS (fun q _ h => hFc q h) hFc (fun r_60 u t H1 locs ht hvm w_61 hB hz1 hk1 hS => ?_)
      obtain ⟨ws_62, ty_63, hm_64, ht_66, hP1, hK1, hD1, hx_65⟩ := hB
      rw [ht] at hP1
      have hK := va_K.moved hvm.symm hK1
      have hD := hD1.weaken (fun _ _ _ h => hFc _ h)
      generalize H1 = H at hP1 hS ⊢
      have hP := hP1
      have e_67 := hm_64.objK e_51 (by decide)
      have e_68 := hm_64.objK e_52 (by decide)
      obtain ⟨f_70, e_69⟩ := hm_64.arrI e_53
      have u_71 := ht_66 _ _ u_55
      obtain ⟨f_73, e_72⟩ := hm_64.arrI e_56
      have u_74 := ht_66 _ _ u_58
      have hsm := hsm.tr (hm_64.mono (by decide))
      have htx := htx.tr ht_66
      rcases w_61 with rfl | rfl
      · refine lv_if_ne (tgt := 80) hx hb dX4_isKeptWord_33 (by decide) (fun c_75 => absurd (by decide) c_75) (fun c_75 => ?_)
        refine lv_aload_n hx hb dX4_isKeptWord_36 rfl (lv_at hl 0 rfl) ?_
        refine va_get (D := D) (ci := 4) (v := .ref tp) (C := RX4) (T := TX4) (N := 8) hx hb hts hin4 hown hK hP krd e_67 rfl 0 (by decide) (hts (.fieldLink RX4 12 "HoneyHouse$RuleReader" "tape" "LHoneyHouse$Tape;") (List.mem_of_getElem? (i := 1) rfl)) (fun _ h9 => h9) rfl dX4_isKeptWord_37 ?_
        refine va_ldcS hx hb hown hsz9.2.2.2.2.2.2.2.1 dX4_isKeptWord_40 ?_
        have hFc := free_all hD hS hA
        refine va_calli (va_runV (As := [.ref (adK 4)]) (rest := []) ⟨hx, hb, hml, hown, hts⟩ (a_isWord l D ws_62 ty_63 adK adV fo 4 tp ktp tl ya_9 (nI ts_1) (nI te_2) bb k_22 c9_23 t_24 f_73 H.size (by decide) e_68 e_72 u_74) (cwV 1 hts gX4_isKeptWord_X6_isWord rfl rfl rfl (by decide +kernel) ⟨Nat.le_of_ble_eq_true rfl, Nat.le_of_ble_eq_true rfl⟩) ⟨fun a U g mk q => by obtain ⟨q0, q1, qP, qK, qD, qS⟩ := q; exact ⟨q0, q1, qP, va_K.moved (u := U) (U := U.calling g mk a) (Vm.Alike.refl U.vm) qK, qD, SZ.same rfl rfl qS⟩, va_recv hK hP (ci := 6) (q0 := ktp) rfl e_68, fun U hU hW => ⟨rfl, by rw [hU], by rw [hU]; exact hP, va_K.moved hW.alike hK, hD.weaken (fun _ _ _ _ => trivial), hsz9.go hS hW hU hFc⟩⟩ rfl rfl hl.1 rfl (lv_room (Nat.le_of_ble_eq_true rfl)) dX4_isKeptWord_42 ⟨Nat.le_of_ble_eq_true rfl, Nat.le_of_ble_eq_true rfl⟩) hS (fun q _ h => hFc q h) hFc (fun r_76 u t H1 locs ht hvm w_77 hB hz1 hk1 hS => ?_)
        obtain ⟨ws_78, ty_79, hm_80, ht_82, hP1, hK1, hD1, hx_81⟩ := hB
        rw [ht] at hP1
        have hK := va_K.moved hvm.symm hK1
        have hD := hD1.weaken (fun _ _ _ h => hFc _ h)
        generalize H1 = H at hP1 hS ⊢
        have hP := hP1
        have e_83 := hm_80.objK e_67 (by decide)
        have e_84 := hm_80.objK e_68 (by decide)
        obtain ⟨f_86, e_85⟩ := hm_80.arrI e_69
        have u_87 := ht_82 _ _ u_71
        obtain ⟨f_89, e_88⟩ := hm_80.arrI e_72
        have u_90 := ht_82 _ _ u_74
        have hsm := hsm.tr (hm_80.mono (by decide))
        have htx := htx.tr ht_82
        rcases w_77 with rfl | rfl
        · refine lv_if_ne (tgt := 80) hx hb dX4_isKeptWord_45 (by decide) (fun c_91 => absurd (by decide) c_91) (fun c_91 => ?_)
          refine lv_aload_n hx hb dX4_isKeptWord_48 rfl (lv_at hl 0 rfl) ?_
          refine va_get (D := D) (ci := 4) (v := .ref tp) (C := RX4) (T := TX4) (N := 8) hx hb hts hin4 hown hK hP krd e_83 rfl 0 (by decide) (hts (.fieldLink RX4 12 "HoneyHouse$RuleReader" "tape" "LHoneyHouse$Tape;") (List.mem_of_getElem? (i := 1) rfl)) (fun _ h9 => h9) rfl dX4_isKeptWord_49 ?_
          refine va_ldcS hx hb hown hsz9.2.2.2.2.2.2.2.2.1 dX4_isKeptWord_52 ?_
          have hFc := free_all hD hS hA
          refine va_calli (va_runV (As := [.ref (adK 5)]) (rest := []) ⟨hx, hb, hml, hown, hts⟩ (a_isWord l D ws_78 ty_79 adK adV fo 5 tp ktp tl ya_9 (nI ts_1) (nI te_2) bb k_22 c9_23 t_24 f_89 H.size (by decide) e_84 e_88 u_90) (cwV 1 hts gX4_isKeptWord_X6_isWord rfl rfl rfl (by decide +kernel) ⟨Nat.le_of_ble_eq_true rfl, Nat.le_of_ble_eq_true rfl⟩) ⟨fun a U g mk q => by obtain ⟨q0, q1, qP, qK, qD, qS⟩ := q; exact ⟨q0, q1, qP, va_K.moved (u := U) (U := U.calling g mk a) (Vm.Alike.refl U.vm) qK, qD, SZ.same rfl rfl qS⟩, va_recv hK hP (ci := 6) (q0 := ktp) rfl e_84, fun U hU hW => ⟨rfl, by rw [hU], by rw [hU]; exact hP, va_K.moved hW.alike hK, hD.weaken (fun _ _ _ _ => trivial), hsz9.go hS hW hU hFc⟩⟩ rfl rfl hl.1 rfl (lv_room (Nat.le_of_ble_eq_true rfl)) dX4_isKeptWord_54 ⟨Nat.le_of_ble_eq_true rfl, Nat.le_of_ble_eq_true rfl⟩) hS (fun q _ h => hFc q h) hFc (fun r_92 u t H1 locs ht hvm w_93 hB hz1 hk1 hS => ?_)
          obtain ⟨ws_94, ty_95, hm_96, ht_98, hP1, hK1, hD1, hx_97⟩ := hB
          rw [ht] at hP1
          have hK := va_K.moved hvm.symm hK1
          have hD := hD1.weaken (fun _ _ _ h => hFc _ h)
          generalize H1 = H at hP1 hS ⊢
          have hP := hP1
          have e_99 := hm_96.objK e_83 (by decide)
          have e_100 := hm_96.objK e_84 (by decide)
          obtain ⟨f_102, e_101⟩ := hm_96.arrI e_85
          have u_103 := ht_98 _ _ u_87
          obtain ⟨f_105, e_104⟩ := hm_96.arrI e_88
          have u_106 := ht_98 _ _ u_90
          have hsm := hsm.tr (hm_96.mono (by decide))
          have htx := htx.tr ht_98
          rcases w_93 with rfl | rfl
          · refine lv_if_ne (tgt := 80) hx hb dX4_isKeptWord_57 (by decide) (fun c_107 => absurd (by decide) c_107) (fun c_107 => ?_)
            refine lv_aload_n hx hb dX4_isKeptWord_60 rfl (lv_at hl 0 rfl) ?_
            refine va_get (D := D) (ci := 4) (v := .ref tp) (C := RX4) (T := TX4) (N := 8) hx hb hts hin4 hown hK hP krd e_99 rfl 0 (by decide) (hts (.fieldLink RX4 12 "HoneyHouse$RuleReader" "tape" "LHoneyHouse$Tape;") (List.mem_of_getElem? (i := 1) rfl)) (fun _ h9 => h9) rfl dX4_isKeptWord_61 ?_
            refine va_ldcS hx hb hown hsz9.2.2.2.1 dX4_isKeptWord_64 ?_
            have hFc := free_all hD hS hA
            refine va_calli (va_runV (As := [.ref (adK 0)]) (rest := []) ⟨hx, hb, hml, hown, hts⟩ (a_isWord l D ws_94 ty_95 adK adV fo 0 tp ktp tl ya_9 (nI ts_1) (nI te_2) bb k_22 c9_23 t_24 f_105 H.size (by decide) e_100 e_104 u_106) (cwV 1 hts gX4_isKeptWord_X6_isWord rfl rfl rfl (by decide +kernel) ⟨Nat.le_of_ble_eq_true rfl, Nat.le_of_ble_eq_true rfl⟩) ⟨fun a U g mk q => by obtain ⟨q0, q1, qP, qK, qD, qS⟩ := q; exact ⟨q0, q1, qP, va_K.moved (u := U) (U := U.calling g mk a) (Vm.Alike.refl U.vm) qK, qD, SZ.same rfl rfl qS⟩, va_recv hK hP (ci := 6) (q0 := ktp) rfl e_100, fun U hU hW => ⟨rfl, by rw [hU], by rw [hU]; exact hP, va_K.moved hW.alike hK, hD.weaken (fun _ _ _ _ => trivial), hsz9.go hS hW hU hFc⟩⟩ rfl rfl hl.1 rfl (lv_room (Nat.le_of_ble_eq_true rfl)) dX4_isKeptWord_66 ⟨Nat.le_of_ble_eq_true rfl, Nat.le_of_ble_eq_true rfl⟩) hS (fun q _ h => hFc q h) hFc (fun r_108 u t H1 locs ht hvm w_109 hB hz1 hk1 hS => ?_)
            obtain ⟨ws_110, ty_111, hm_112, ht_114, hP1, hK1, hD1, hx_113⟩ := hB
            rw [ht] at hP1
            have hK := va_K.moved hvm.symm hK1
            have hD := hD1.weaken (fun _ _ _ h => hFc _ h)
            generalize H1 = H at hP1 hS ⊢
            have hP := hP1
            have e_115 := hm_112.objK e_99 (by decide)
            have e_116 := hm_112.objK e_100 (by decide)
            obtain ⟨f_118, e_117⟩ := hm_112.arrI e_101
            have u_119 := ht_114 _ _ u_103
            obtain ⟨f_121, e_120⟩ := hm_112.arrI e_104
            have u_122 := ht_114 _ _ u_106
            have hsm := hsm.tr (hm_112.mono (by decide))
            have htx := htx.tr ht_114
            rcases w_109 with rfl | rfl
            · refine lv_if_ne (tgt := 80) hx hb dX4_isKeptWord_69 (by decide) (fun c_123 => absurd (by decide) c_123) (fun c_123 => ?_)
              refine lv_aload_n hx hb dX4_isKeptWord_72 rfl (lv_at hl 0 rfl) ?_
              have hFc := free_all hD hS hA
              refine va_calli (va_runV (As := []) (rest := []) ⟨hx, hb, hml, hown, hts⟩ (r_measureNamed l D ws_110 ty_111 adK adV fo rd krd tp ktp cd bb tl  H.size (⟨ts_1, te_2, cc_3, ra_4, rb_5, rc_6, rv_7, re_8, ya_9, by omega, by omega, by omega, by omega, e_115, e_116, ⟨k_16, c9_17, t_18, f_118, e_117, u_119⟩, ⟨k_22, c9_23, t_24, f_121, e_120, u_122⟩⟩ : RS ws_110 ty_111 rd krd tp ktp cd bb tl)) (cwV 0 hts gX4_isKeptWord_X4_measureNamed rfl rfl rfl (by decide +kernel) ⟨Nat.le_of_ble_eq_true rfl, Nat.le_of_ble_eq_true rfl⟩) ⟨fun a U g mk q => by obtain ⟨q0, q1, qP, qK, qD, qS⟩ := q; exact ⟨q0, q1, qP, va_K.moved (u := U) (U := U.calling g mk a) (Vm.Alike.refl U.vm) qK, qD, SZ.same rfl rfl qS⟩, va_recv hK hP (ci := 4) (q0 := krd) rfl e_115, fun U hU hW => ⟨rfl, by rw [hU], by rw [hU]; exact hP, va_K.moved hW.alike hK, hD.weaken (fun _ _ _ _ => trivial), hsz9.go hS hW hU hFc⟩⟩ rfl rfl hl.1 rfl (lv_room (Nat.le_of_ble_eq_true rfl)) dX4_isKeptWord_73 ⟨Nat.le_of_ble_eq_true rfl, Nat.le_of_ble_eq_true rfl⟩) hS (fun q _ h => hFc q h) hFc (fun r_124 u t H1 locs ht hvm w_125 hB hz1 hk1 hS => ?_)
              obtain ⟨ws_126, ty_127, hm_128, ht_130, hP1, hK1, hD1, hx_129⟩ := hB
              rw [ht] at hP1
              have hK := va_K.moved hvm.symm hK1
              have hD := hD1.weaken (fun _ _ _ h => hFc _ h)
              generalize H1 = H at hP1 hS ⊢
              have hP := hP1
              have e_131 := hm_128.objK e_115 (by decide)
              have e_132 := hm_128.objK e_116 (by decide)
              obtain ⟨f_134, e_133⟩ := hm_128.arrI e_117
              have u_135 := ht_130 _ _ u_119
              obtain ⟨f_137, e_136⟩ := hm_128.arrI e_120
              have u_138 := ht_130 _ _ u_122
              have hsm := hsm.tr (hm_128.mono (by decide))
              have htx := htx.tr ht_130
              refine lv_iconst (v := (-1)) hx hb dX4_isKeptWord_76 (by decide) ?_
              refine lv_icmp_eq (tgt := 84) hx hb dX4_isKeptWord_77 (by decide) (fun c_139 => ?_) (fun c_139 => ?_)
              · refine lv_iconst (v := 0) hx hb dX4_isKeptWord_84 (by decide) ?_
                exact W.zret (v := 0) hx hb hr rfl (fun t ht hW => ⟨⟨0, (), rfl, Or.inl rfl, ws_126, ty_127, hsm, htx, by rw [ht]; exact hP, va_K.moved hW.alike hK, hD, trivial⟩, hS.F ht⟩) hS.2.2 dX4_isKeptWord_85
              refine lv_iconst (v := 1) hx hb dX4_isKeptWord_80 (by decide) ?_
              refine lv_goto (tgt := 85) hx hb dX4_isKeptWord_81 (by decide) ?_
              exact W.zret (v := 1) hx hb hr rfl (fun t ht hW => ⟨⟨1, (), rfl, Or.inr rfl, ws_126, ty_127, hsm, htx, by rw [ht]; exact hP, va_K.moved hW.alike hK, hD, trivial⟩, hS.F ht⟩) hS.2.2 dX4_isKeptWord_85
            refine lv_if_ne (tgt := 80) hx hb dX4_isKeptWord_69 (by decide) (fun c_140 => ?_) (fun c_140 => absurd c_140 (by decide))
            refine lv_iconst (v := 1) hx hb dX4_isKeptWord_80 (by decide) ?_
            refine lv_goto (tgt := 85) hx hb dX4_isKeptWord_81 (by decide) ?_
            exact W.zret (v := 1) hx hb hr rfl (fun t ht hW => ⟨⟨1, (), rfl, Or.inr rfl, ws_110, ty_111, hsm, htx, by rw [ht]; exact hP, va_K.moved hW.alike hK, hD, trivial⟩, hS.F ht⟩) hS.2.2 dX4_isKeptWord_85
          refine lv_if_ne (tgt := 80) hx hb dX4_isKeptWord_57 (by decide) (fun c_141 => ?_) (fun c_141 => absurd c_141 (by decide))
          refine lv_iconst (v := 1) hx hb dX4_isKeptWord_80 (by decide) ?_
          refine lv_goto (tgt := 85) hx hb dX4_isKeptWord_81 (by decide) ?_
          exact W.zret (v := 1) hx hb hr rfl (fun t ht hW => ⟨⟨1, (), rfl, Or.inr rfl, ws_94, ty_95, hsm, htx, by rw [ht]; exact hP, va_K.moved hW.alike hK, hD, trivial⟩, hS.F ht⟩) hS.2.2 dX4_isKeptWord_85
        refine lv_if_ne (tgt := 80) hx hb dX4_isKeptWord_45 (by decide) (fun c_142 => ?_) (fun c_142 => absurd c_142 (by decide))
        refine lv_iconst (v := 1) hx hb dX4_isKeptWord_80 (by decide) ?_
        refine lv_goto (tgt := 85) hx hb dX4_isKeptWord_81 (by decide) ?_
        exact W.zret (v := 1) hx hb hr rfl (fun t ht hW => ⟨⟨1, (), rfl, Or.inr rfl, ws_78, ty_79, hsm, htx, by rw [ht]; exact hP, va_K.moved hW.alike hK, hD, trivial⟩, hS.F ht⟩) hS.2.2 dX4_isKeptWord_85
      refine lv_if_ne (tgt := 80) hx hb dX4_isKeptWord_33 (by decide) (fun c_143 => ?_) (fun c_143 => absurd c_143 (by decide))
      refine lv_iconst (v := 1) hx hb dX4_isKeptWord_80 (by decide) ?_
      refine lv_goto (tgt := 85) hx hb dX4_isKeptWord_81 (by decide) ?_
      exact W.zret (v := 1) hx hb hr rfl (fun t ht hW => ⟨⟨1, (), rfl, Or.inr rfl, ws_62, ty_63, hsm, htx, by rw [ht]; exact hP, va_K.moved hW.alike hK, hD, trivial⟩, hS.F ht⟩) hS.2.2 dX4_isKeptWord_85
    refine lv_if_ne (tgt := 80) hx hb dX4_isKeptWord_21 (by decide) (fun c_144 => ?_) (fun c_144 => absurd c_144 (by decide))
    refine lv_iconst (v := 1) hx hb dX4_isKeptWord_80 (by decide) ?_
    refine lv_goto (tgt := 85) hx hb dX4_isKeptWord_81 (by decide) ?_
    exact W.zret (v := 1) hx hb hr rfl (fun t ht hW => ⟨⟨1, (), rfl, Or.inr rfl, ws_46, ty_47, hsm, htx, by rw [ht]; exact hP, va_K.moved hW.alike hK, hD, trivial⟩, hS.F ht⟩) hS.2.2 dX4_isKeptWord_85
  refine lv_if_ne (tgt := 80) hx hb dX4_isKeptWord_9 (by decide) (fun c_145 => ?_) (fun c_145 => absurd c_145 (by decide))
  refine lv_iconst (v := 1) hx hb dX4_isKeptWord_80 (by decide) ?_
  refine lv_goto (tgt := 85) hx hb dX4_isKeptWord_81 (by decide) ?_
  exact W.zret (v := 1) hx hb hr rfl (fun t ht hW => ⟨⟨1, (), rfl, Or.inr rfl, ws_30, ty_31, hsm, htx, by rw [ht]; exact hP, va_K.moved hW.alike hK, hD, trivial⟩, hS.F ht⟩) hS.2.2 dX4_isKeptWord_85
set_option maxHeartbeats 4000000 in
set_option maxRecDepth 100000 in
theorem r_readByte (l : Launch) (D : va_G) (ws : va_W) (tys : List (ClassId × FieldType)) (adK adV : Nat → Nat) (fo : Option Nat) (rd krd tp ktp cd bb tl : Nat) (a1 : Int32) (sz : Nat) (R0 : RS ws tys rd krd tp ktp cd bb tl)  : Met l yX4_readByte wsX4_readByte ({ frames := 2, cells := 0, slots := 0, locals := 43 }) (va_Pc [.ref rd, .int a1] (fun U => U.heap.size = sz ∧ va_P D vwCl ws U.heap ∧ va_K D vwCl tys U ∧ va_D (fun _ => True) ws ∧ SZ adK adV fo (va_A ws sz) U U.heap)) (va_Qi (fun (r : Int32) (_ : Unit) => r = 0 ∨ r = 1) (fun (_ : Unit) (t : State) => ∃ (ws' : va_W) (tys' : List (ClassId × FieldType)), sm [4, 6] ws ws' ∧ tyx tys tys' ∧ va_P D vwCl ws' t.heap ∧ va_K D vwCl tys' t ∧ va_D (va_A ws sz) ws' ∧ RS ws' tys' rd krd tp ktp cd bb tl) (va_A ws sz)) 0 0 (va_A ws sz) := by
  refine Met.ofW (cc := cX4_readByte) (maxL := 2) (ret := (some .boolean)) (by decide) rfl ?_
  intro p e s m args below meth c s₁ B hml hv
  obtain ⟨rfl, hsz, hP, hK, hD0, hsz9⟩ := hv
  have hx := B.exec
  have hb := B.bytes
  have hr := B.returns
  have hts := atoms_spec (ws := wsX4_readByte) B.pre
  have hown : s.vm.findClass RX4 = some m.cls := findClass_of_methodNamed B.named
  have hlocks := B.notSynchronized
  subst hsz
  have hD := hD0.self (sz := s.heap.size)
  generalize hAe : va_A ws s.heap.size = A at hD hsz9 ⊢
  have hA : ∀ q : Nat, s.heap.size ≤ q → A q := fun q h => by rw [← hAe]; exact Or.inr h
  have hS : va_S A s.heap s.heap [] := va_S.rf
  have hsm : sm [4, 6] ws ws := sm.rf ws
  have htx : tyx tys tys := tyx.rf tys
  have hin4 : ∀ w ∈ u_ws RX4 TX4 8, w ∈ wsX4_readByte := (fun _ h9 => List.mem_cons_of_mem _ (List.mem_append_left _ ((List.mem_append_right _ h9))))
  have hl := lv_entry ([.ref rd, .int a1]) (n := 2) (Nat.le_of_ble_eq_true rfl)
  rw [lg_entry_eq]
  generalize (lg_sl ([.ref rd, .int a1]) ++ List.replicate (2 - (lg_sl ([.ref rd, .int a1])).length) Slot.unset).toArray = ls at hl ⊢
  have hl : lv_has ls 2 [(0, .ref rd), (1, .int a1)] := hl
  obtain ⟨ts_1, te_2, cc_3, ra_4, rb_5, rc_6, rv_7, re_8, ya_9, h1_10, h2_11, h3_12, h4_13, er_14, et_15, ⟨k_16, c9_17, t_18, f_19, e_20, u_21⟩, ⟨k_22, c9_23, t_24, f_25, e_26, u_27⟩⟩ := id R0
  refine lv_aload_n hx hb dX4_readByte_0 rfl (lv_at hl 0 rfl) ?_
  refine va_get (D := D) (ci := 4) (v := .ref tp) (C := RX4) (T := TX4) (N := 8) hx hb hts hin4 hown hK hP krd er_14 rfl 0 (by decide) (hts (.fieldLink RX4 12 "HoneyHouse$RuleReader" "tape" "LHoneyHouse$Tape;") (List.mem_of_getElem? (i := 1) rfl)) (fun _ h9 => h9) rfl dX4_readByte_1 ?_
  refine lv_iload_n hx hb dX4_readByte_4 rfl (lv_at hl 1 rfl) ?_
  refine vp_callSi (W.runV (As := [.int a1]) (rest := []) ⟨hx, hb, hml, hown, hts⟩ (s_isByte l D ws tys tp ktp tl ya_9 (nI ts_1) (nI te_2) bb k_22 c9_23 t_24 f_25 a1 et_15 e_26 u_27) (cwV 1 hts gX4_readByte_X6_isByte rfl rfl rfl (by decide +kernel) ⟨Nat.le_of_ble_eq_true rfl, Nat.le_of_ble_eq_true rfl⟩) ⟨fun a U g mk q => ⟨q.1, q.2.1, va_K.moved (u := U) (U := U.calling g mk a) (Vm.Alike.refl U.vm) q.2.2⟩, va_recv hK hP (ci := 6) (q0 := ktp) rfl et_15, fun U hU hW => ⟨rfl, by rw [hU]; exact hP, va_K.moved hW.alike hK⟩⟩ rfl rfl hl.1 rfl (lv_room (Nat.le_of_ble_eq_true rfl)) dX4_readByte_5 ⟨Nat.le_of_ble_eq_true rfl, Nat.le_of_ble_eq_true rfl⟩) (fun r_28 k_29 => ?_)
  rcases k_29 with rfl | rfl
  · refine lv_if_ne (tgt := 16) hx hb dX4_readByte_8 (by decide) (fun c_30 => absurd (by decide) c_30) (fun c_30 => ?_)
    refine lv_aload_n hx hb dX4_readByte_11 rfl (lv_at hl 0 rfl) ?_
    have hFc := free_all hD hS hA
    refine va_calli (va_runV (As := []) (rest := []) ⟨hx, hb, hml, hown, hts⟩ (r_failHere l D ws tys adK adV fo rd krd tp ktp cd bb tl  s.heap.size (⟨ts_1, te_2, cc_3, ra_4, rb_5, rc_6, rv_7, re_8, ya_9, by omega, by omega, by omega, by omega, er_14, et_15, ⟨k_16, c9_17, t_18, f_19, e_20, u_21⟩, ⟨k_22, c9_23, t_24, f_25, e_26, u_27⟩⟩ : RS ws tys rd krd tp ktp cd bb tl)) (cwV 0 hts gX4_readByte_X4_failHere rfl rfl rfl (by decide +kernel) ⟨Nat.le_of_ble_eq_true rfl, Nat.le_of_ble_eq_true rfl⟩) ⟨fun a U g mk q => by obtain ⟨q0, q1, qP, qK, qD, qS⟩ := q; exact ⟨q0, q1, qP, va_K.moved (u := U) (U := U.calling g mk a) (Vm.Alike.refl U.vm) qK, qD, SZ.same rfl rfl qS⟩, va_recv hK hP (ci := 4) (q0 := krd) rfl er_14, fun U hU hW => ⟨rfl, by rw [hU], by rw [hU]; exact hP, va_K.moved hW.alike hK, hD.weaken (fun _ _ _ _ => trivial), hsz9.go hS hW hU hFc⟩⟩ rfl rfl hl.1 rfl (lv_room (Nat.le_of_ble_eq_true rfl)) dX4_readByte_12 ⟨Nat.le_of_ble_eq_true rfl, Nat.le_of_ble_eq_true rfl⟩) hS (fun q _ h => hFc q h) hFc (fun r_31 u t H1 locs ht hvm w_32 hB hz1 hk1 hS => ?_)
    obtain ⟨ws_33, ty_34, hm_35, ht_37, hP1, hK1, hD1, hx_36⟩ := hB
    rw [ht] at hP1
    have hK := va_K.moved hvm.symm hK1
    have hD := hD1.weaken (fun _ _ _ h => hFc _ h)
    generalize H1 = H at hP1 hS ⊢
    have hP := hP1
    obtain ⟨g_39, e_38, h_40⟩ := hm_35.obj er_14
    obtain ⟨z_41, z_42, z_43, z_44, z_45, z_46, rfl⟩ := smX4 h_40
    obtain ⟨g_48, e_47, h_49⟩ := hm_35.obj et_15
    obtain ⟨z_50, z_51, z_52, z_53, rfl⟩ := smX6 h_49
    obtain ⟨f_55, e_54⟩ := hm_35.arrI e_20
    have u_56 := ht_37 _ _ u_21
    obtain ⟨f_58, e_57⟩ := hm_35.arrI e_26
    have u_59 := ht_37 _ _ u_27
    have hsm := hsm.tr (hm_35.mono (by decide))
    have htx := htx.tr ht_37
    obtain ⟨ts_60, te_61, cc_62, ra_63, rb_64, rc_65, rv_66, re_67, ya_68, h1_69, h2_70, h3_71, h4_72, er_73, et_74, ⟨k_75, c9_76, t_77, f_78, e_79, u_80⟩, ⟨k_81, c9_82, t_83, f_84, e_85, u_86⟩⟩ := id hx_36
    subst w_32
    exact W.zret (v := 0) hx hb hr rfl (fun t ht hW => ⟨⟨0, (), rfl, Or.inl rfl, ws_33, ty_34, hsm, htx, by rw [ht]; exact hP, va_K.moved hW.alike hK, hD, (⟨ts_60, te_61, cc_62, ra_63, rb_64, rc_65, rv_66, re_67, ya_68, by omega, by omega, by omega, by omega, er_73, et_74, ⟨k_75, c9_76, t_77, f_78, e_79, u_80⟩, ⟨k_81, c9_82, t_83, f_84, e_85, u_86⟩⟩ : RS ws_33 ty_34 rd krd tp ktp cd bb tl)⟩, hS.F ht⟩) hS.2.2 dX4_readByte_15
  refine lv_if_ne (tgt := 16) hx hb dX4_readByte_8 (by decide) (fun c_87 => ?_) (fun c_87 => absurd c_87 (by decide))
  refine lv_aload_n hx hb dX4_readByte_16 rfl (lv_at hl 0 rfl) ?_
  refine va_get (D := D) (ci := 4) (v := .ref tp) (C := RX4) (T := TX4) (N := 8) hx hb hts hin4 hown hK hP krd er_14 rfl 0 (by decide) (hts (.fieldLink RX4 12 "HoneyHouse$RuleReader" "tape" "LHoneyHouse$Tape;") (List.mem_of_getElem? (i := 1) rfl)) (fun _ h9 => h9) rfl dX4_readByte_17 ?_
  have hFc := free_all hD hS hA
  refine va_callv (va_runV (As := []) (rest := []) ⟨hx, hb, hml, hown, hts⟩ (a_advance l D ws tys tp ktp tl te_2 ya_9 (nI ts_1) bb k_22 c9_23 t_24 f_25 s.heap.size (by omega) (by omega) et_15 e_26 u_27) (cwV 0 hts gX4_readByte_X6_advance rfl rfl rfl (by decide +kernel) ⟨Nat.le_of_ble_eq_true rfl, Nat.le_of_ble_eq_true rfl⟩) ⟨fun a U g mk q => by obtain ⟨q0, q1, qP, qK, qD⟩ := q; exact ⟨q0, q1, qP, va_K.moved (u := U) (U := U.calling g mk a) (Vm.Alike.refl U.vm) qK, qD⟩, va_recv hK hP (ci := 6) (q0 := ktp) rfl et_15, fun U hU hW => ⟨rfl, by rw [hU], by rw [hU]; exact hP, va_K.moved hW.alike hK, hD.weaken (fun _ _ _ _ => trivial)⟩⟩ rfl rfl hl.1 rfl (lv_room (Nat.le_of_ble_eq_true rfl)) dX4_readByte_20 ⟨Nat.le_of_ble_eq_true rfl, Nat.le_of_ble_eq_true rfl⟩) hS (fun q _ h => hFc q h) hFc (fun u t H1 locs ht hvm w_89 hB hz1 hk1 hS => ?_)
  obtain ⟨ws_90, ty_91, hm_92, ht_94, hP1, hK1, hD1, hx_93⟩ := hB
  rw [ht] at hP1
  have hK := va_K.moved hvm.symm hK1
  have hD := hD1.weaken (fun _ _ _ h => hFc _ h)
  generalize H1 = H at hP1 hS ⊢
  have hP := hP1
  have e_95 := hm_92.objK er_14 (by decide)
  obtain ⟨g_97, e_96, h_98⟩ := hm_92.obj et_15
  obtain ⟨z_99, z_100, z_101, z_102, rfl⟩ := smX6 h_98
  obtain ⟨f_104, e_103⟩ := hm_92.arrI e_20
  have u_105 := ht_94 _ _ u_21
  obtain ⟨f_107, e_106⟩ := hm_92.arrI e_26
  have u_108 := ht_94 _ _ u_27
  have hsm := hsm.tr (hm_92.mono (by decide))
  have htx := htx.tr ht_94
  obtain ⟨k_109, s_110, e_111, h_112, h_113, h_114, e_115⟩ := hx_93
  refine lv_iconst (v := 1) hx hb dX4_readByte_23 (by decide) ?_
  exact W.zret (v := 1) hx hb hr rfl (fun t ht hW => ⟨⟨1, (), rfl, Or.inr rfl, ws_90, ty_91, hsm, htx, by rw [ht]; exact hP, va_K.moved hW.alike hK, hD, (⟨s_110, e_111, cc_3, ra_4, rb_5, rc_6, rv_7, re_8, nI k_109, by omega, by omega, by omega, by omega, e_95, e_115, ⟨k_16, c9_17, t_18, f_104, e_103, u_105⟩, ⟨k_22, c9_23, t_24, f_107, e_106, u_108⟩⟩ : RS ws_90 ty_91 rd krd tp ktp cd bb tl)⟩, hS.F ht⟩) hS.2.2 dX4_readByte_24
set_option maxHeartbeats 4000000 in
set_option maxRecDepth 100000 in
theorem r_readWord (l : Launch) (D : va_G) (ws : va_W) (tys : List (ClassId × FieldType)) (adK adV : Nat → Nat) (fo : Option Nat) (rd krd tp ktp cd bb tl : Nat) (i9 : Nat) (sz : Nat) (R0 : RS ws tys rd krd tp ktp cd bb tl) (hi9 : i9 < 11) : Met l yX4_readWord wsX4_readWord ({ frames := 5, cells := 0, slots := 0, locals := 107 }) (va_Pc [.ref rd, .ref (adK i9)] (fun U => U.heap.size = sz ∧ va_P D vwCl ws U.heap ∧ va_K D vwCl tys U ∧ va_D (fun _ => True) ws ∧ SZ adK adV fo (va_A ws sz) U U.heap)) (va_Qi (fun (r : Int32) (_ : Unit) => r = 0 ∨ r = 1) (fun (_ : Unit) (t : State) => ∃ (ws' : va_W) (tys' : List (ClassId × FieldType)), sm [4, 6] ws ws' ∧ tyx tys tys' ∧ va_P D vwCl ws' t.heap ∧ va_K D vwCl tys' t ∧ va_D (va_A ws sz) ws' ∧ RS ws' tys' rd krd tp ktp cd bb tl) (va_A ws sz)) 0 0 (va_A ws sz) := by
  refine Met.ofW (cc := cX4_readWord) (maxL := 2) (ret := (some .boolean)) (by decide) rfl ?_
  intro p e s m args below meth c s₁ B hml hv
  obtain ⟨rfl, hsz, hP, hK, hD0, hsz9⟩ := hv
  have hx := B.exec
  have hb := B.bytes
  have hr := B.returns
  have hts := atoms_spec (ws := wsX4_readWord) B.pre
  have hown : s.vm.findClass RX4 = some m.cls := findClass_of_methodNamed B.named
  have hlocks := B.notSynchronized
  subst hsz
  have hD := hD0.self (sz := s.heap.size)
  generalize hAe : va_A ws s.heap.size = A at hD hsz9 ⊢
  have hA : ∀ q : Nat, s.heap.size ≤ q → A q := fun q h => by rw [← hAe]; exact Or.inr h
  have hS : va_S A s.heap s.heap [] := va_S.rf
  have hsm : sm [4, 6] ws ws := sm.rf ws
  have htx : tyx tys tys := tyx.rf tys
  have hin4 : ∀ w ∈ u_ws RX4 TX4 8, w ∈ wsX4_readWord := (fun _ h9 => List.mem_cons_of_mem _ (List.mem_append_left _ ((List.mem_append_right _ h9))))
  have hl := lv_entry ([.ref rd, .ref (adK i9)]) (n := 2) (Nat.le_of_ble_eq_true rfl)
  rw [lg_entry_eq]
  generalize (lg_sl ([.ref rd, .ref (adK i9)]) ++ List.replicate (2 - (lg_sl ([.ref rd, .ref (adK i9)])).length) Slot.unset).toArray = ls at hl ⊢
  have hl : lv_has ls 2 [(0, .ref rd), (1, .ref (adK i9))] := hl
  obtain ⟨ts_1, te_2, cc_3, ra_4, rb_5, rc_6, rv_7, re_8, ya_9, h1_10, h2_11, h3_12, h4_13, er_14, et_15, ⟨k_16, c9_17, t_18, f_19, e_20, u_21⟩, ⟨k_22, c9_23, t_24, f_25, e_26, u_27⟩⟩ := id R0
  refine lv_aload_n hx hb dX4_readWord_0 rfl (lv_at hl 0 rfl) ?_
  refine va_get (D := D) (ci := 4) (v := .ref tp) (C := RX4) (T := TX4) (N := 8) hx hb hts hin4 hown hK hP krd er_14 rfl 0 (by decide) (hts (.fieldLink RX4 12 "HoneyHouse$RuleReader" "tape" "LHoneyHouse$Tape;") (List.mem_of_getElem? (i := 1) rfl)) (fun _ h9 => h9) rfl dX4_readWord_1 ?_
  refine lv_aload_n hx hb dX4_readWord_4 rfl (lv_at hl 1 rfl) ?_
  have hFc := free_all hD hS hA
  refine va_calli (va_runV (As := [.ref (adK i9)]) (rest := []) ⟨hx, hb, hml, hown, hts⟩ (a_isWord l D ws tys adK adV fo i9 tp ktp tl ya_9 (nI ts_1) (nI te_2) bb k_22 c9_23 t_24 f_25 s.heap.size hi9 et_15 e_26 u_27) (cwV 1 hts gX4_readWord_X6_isWord rfl rfl rfl (by decide +kernel) ⟨Nat.le_of_ble_eq_true rfl, Nat.le_of_ble_eq_true rfl⟩) ⟨fun a U g mk q => by obtain ⟨q0, q1, qP, qK, qD, qS⟩ := q; exact ⟨q0, q1, qP, va_K.moved (u := U) (U := U.calling g mk a) (Vm.Alike.refl U.vm) qK, qD, SZ.same rfl rfl qS⟩, va_recv hK hP (ci := 6) (q0 := ktp) rfl et_15, fun U hU hW => ⟨rfl, by rw [hU], by rw [hU]; exact hP, va_K.moved hW.alike hK, hD.weaken (fun _ _ _ _ => trivial), hsz9.go hS hW hU hFc⟩⟩ rfl rfl hl.1 rfl (lv_room (Nat.le_of_ble_eq_true rfl)) dX4_readWord_5 ⟨Nat.le_of_ble_eq_true rfl, Nat.le_of_ble_eq_true rfl⟩) hS (fun q _ h => hFc q h) hFc (fun r_28 u t H1 locs ht hvm w_29 hB hz1 hk1 hS => ?_)
  obtain ⟨ws_30, ty_31, hm_32, ht_34, hP1, hK1, hD1, hx_33⟩ := hB
  rw [ht] at hP1
  have hK := va_K.moved hvm.symm hK1
  have hD := hD1.weaken (fun _ _ _ h => hFc _ h)
  generalize H1 = H at hP1 hS ⊢
  have hP := hP1
  have e_35 := hm_32.objK er_14 (by decide)
  have e_36 := hm_32.objK et_15 (by decide)
  obtain ⟨f_38, e_37⟩ := hm_32.arrI e_20
  have u_39 := ht_34 _ _ u_21
  obtain ⟨f_41, e_40⟩ := hm_32.arrI e_26
  have u_42 := ht_34 _ _ u_27
  have hsm := hsm.tr (hm_32.mono (by decide))
  have htx := htx.tr ht_34
  rcases w_29 with rfl | rfl
  · refine lv_if_ne (tgt := 16) hx hb dX4_readWord_8 (by decide) (fun c_43 => absurd (by decide) c_43) (fun c_43 => ?_)
    refine lv_aload_n hx hb dX4_readWord_11 rfl (lv_at hl 0 rfl) ?_
    have hFc := free_all hD hS hA
    refine va_calli (va_runV (As := []) (rest := []) ⟨hx, hb, hml, hown, hts⟩ (r_failHere l D ws_30 ty_31 adK adV fo rd krd tp ktp cd bb tl  H.size (⟨ts_1, te_2, cc_3, ra_4, rb_5, rc_6, rv_7, re_8, ya_9, by omega, by omega, by omega, by omega, e_35, e_36, ⟨k_16, c9_17, t_18, f_38, e_37, u_39⟩, ⟨k_22, c9_23, t_24, f_41, e_40, u_42⟩⟩ : RS ws_30 ty_31 rd krd tp ktp cd bb tl)) (cwV 0 hts gX4_readWord_X4_failHere rfl rfl rfl (by decide +kernel) ⟨Nat.le_of_ble_eq_true rfl, Nat.le_of_ble_eq_true rfl⟩) ⟨fun a U g mk q => by obtain ⟨q0, q1, qP, qK, qD, qS⟩ := q; exact ⟨q0, q1, qP, va_K.moved (u := U) (U := U.calling g mk a) (Vm.Alike.refl U.vm) qK, qD, SZ.same rfl rfl qS⟩, va_recv hK hP (ci := 4) (q0 := krd) rfl e_35, fun U hU hW => ⟨rfl, by rw [hU], by rw [hU]; exact hP, va_K.moved hW.alike hK, hD.weaken (fun _ _ _ _ => trivial), hsz9.go hS hW hU hFc⟩⟩ rfl rfl hl.1 rfl (lv_room (Nat.le_of_ble_eq_true rfl)) dX4_readWord_12 ⟨Nat.le_of_ble_eq_true rfl, Nat.le_of_ble_eq_true rfl⟩) hS (fun q _ h => hFc q h) hFc (fun r_44 u t H1 locs ht hvm w_45 hB hz1 hk1 hS => ?_)
    obtain ⟨ws_46, ty_47, hm_48, ht_50, hP1, hK1, hD1, hx_49⟩ := hB
    rw [ht] at hP1
    have hK := va_K.moved hvm.symm hK1
    have hD := hD1.weaken (fun _ _ _ h => hFc _ h)
    generalize H1 = H at hP1 hS ⊢
    have hP := hP1
    obtain ⟨g_52, e_51, h_53⟩ := hm_48.obj e_35
    obtain ⟨z_54, z_55, z_56, z_57, z_58, z_59, rfl⟩ := smX4 h_53
    obtain ⟨g_61, e_60, h_62⟩ := hm_48.obj e_36
    obtain ⟨z_63, z_64, z_65, z_66, rfl⟩ := smX6 h_62
    obtain ⟨f_68, e_67⟩ := hm_48.arrI e_37
    have u_69 := ht_50 _ _ u_39
    obtain ⟨f_71, e_70⟩ := hm_48.arrI e_40
    have u_72 := ht_50 _ _ u_42
    have hsm := hsm.tr (hm_48.mono (by decide))
    have htx := htx.tr ht_50
    obtain ⟨ts_73, te_74, cc_75, ra_76, rb_77, rc_78, rv_79, re_80, ya_81, h1_82, h2_83, h3_84, h4_85, er_86, et_87, ⟨k_88, c9_89, t_90, f_91, e_92, u_93⟩, ⟨k_94, c9_95, t_96, f_97, e_98, u_99⟩⟩ := id hx_49
    subst w_45
    exact W.zret (v := 0) hx hb hr rfl (fun t ht hW => ⟨⟨0, (), rfl, Or.inl rfl, ws_46, ty_47, hsm, htx, by rw [ht]; exact hP, va_K.moved hW.alike hK, hD, (⟨ts_73, te_74, cc_75, ra_76, rb_77, rc_78, rv_79, re_80, ya_81, by omega, by omega, by omega, by omega, er_86, et_87, ⟨k_88, c9_89, t_90, f_91, e_92, u_93⟩, ⟨k_94, c9_95, t_96, f_97, e_98, u_99⟩⟩ : RS ws_46 ty_47 rd krd tp ktp cd bb tl)⟩, hS.F ht⟩) hS.2.2 dX4_readWord_15
  refine lv_if_ne (tgt := 16) hx hb dX4_readWord_8 (by decide) (fun c_100 => ?_) (fun c_100 => absurd c_100 (by decide))
  refine lv_aload_n hx hb dX4_readWord_16 rfl (lv_at hl 0 rfl) ?_
  refine va_get (D := D) (ci := 4) (v := .ref tp) (C := RX4) (T := TX4) (N := 8) hx hb hts hin4 hown hK hP krd e_35 rfl 0 (by decide) (hts (.fieldLink RX4 12 "HoneyHouse$RuleReader" "tape" "LHoneyHouse$Tape;") (List.mem_of_getElem? (i := 1) rfl)) (fun _ h9 => h9) rfl dX4_readWord_17 ?_
  have hFc := free_all hD hS hA
  refine va_callv (va_runV (As := []) (rest := []) ⟨hx, hb, hml, hown, hts⟩ (a_advance l D ws_30 ty_31 tp ktp tl te_2 ya_9 (nI ts_1) bb k_22 c9_23 t_24 f_41 H.size (by omega) (by omega) e_36 e_40 u_42) (cwV 0 hts gX4_readWord_X6_advance rfl rfl rfl (by decide +kernel) ⟨Nat.le_of_ble_eq_true rfl, Nat.le_of_ble_eq_true rfl⟩) ⟨fun a U g mk q => by obtain ⟨q0, q1, qP, qK, qD⟩ := q; exact ⟨q0, q1, qP, va_K.moved (u := U) (U := U.calling g mk a) (Vm.Alike.refl U.vm) qK, qD⟩, va_recv hK hP (ci := 6) (q0 := ktp) rfl e_36, fun U hU hW => ⟨rfl, by rw [hU], by rw [hU]; exact hP, va_K.moved hW.alike hK, hD.weaken (fun _ _ _ _ => trivial)⟩⟩ rfl rfl hl.1 rfl (lv_room (Nat.le_of_ble_eq_true rfl)) dX4_readWord_20 ⟨Nat.le_of_ble_eq_true rfl, Nat.le_of_ble_eq_true rfl⟩) hS (fun q _ h => hFc q h) hFc (fun u t H1 locs ht hvm w_102 hB hz1 hk1 hS => ?_)
  obtain ⟨ws_103, ty_104, hm_105, ht_107, hP1, hK1, hD1, hx_106⟩ := hB
  rw [ht] at hP1
  have hK := va_K.moved hvm.symm hK1
  have hD := hD1.weaken (fun _ _ _ h => hFc _ h)
  generalize H1 = H at hP1 hS ⊢
  have hP := hP1
  have e_108 := hm_105.objK e_35 (by decide)
  obtain ⟨g_110, e_109, h_111⟩ := hm_105.obj e_36
  obtain ⟨z_112, z_113, z_114, z_115, rfl⟩ := smX6 h_111
  obtain ⟨f_117, e_116⟩ := hm_105.arrI e_37
  have u_118 := ht_107 _ _ u_39
  obtain ⟨f_120, e_119⟩ := hm_105.arrI e_40
  have u_121 := ht_107 _ _ u_42
  have hsm := hsm.tr (hm_105.mono (by decide))
  have htx := htx.tr ht_107
  obtain ⟨k_122, s_123, e_124, h_125, h_126, h_127, e_128⟩ := hx_106
  refine lv_iconst (v := 1) hx hb dX4_readWord_23 (by decide) ?_
  exact W.zret (v := 1) hx hb hr rfl (fun t ht hW => ⟨⟨1, (), rfl, Or.inr rfl, ws_103, ty_104, hsm, htx, by rw [ht]; exact hP, va_K.moved hW.alike hK, hD, (⟨s_123, e_124, cc_3, ra_4, rb_5, rc_6, rv_7, re_8, nI k_122, by omega, by omega, by omega, by omega, e_108, e_128, ⟨k_16, c9_17, t_18, f_117, e_116, u_118⟩, ⟨k_22, c9_23, t_24, f_120, e_119, u_121⟩⟩ : RS ws_103 ty_104 rd krd tp ktp cd bb tl)⟩, hS.F ht⟩) hS.2.2 dX4_readWord_24
set_option maxHeartbeats 4000000 in
set_option maxRecDepth 100000 in
theorem r_readNumber (l : Launch) (D : va_G) (ws : va_W) (tys : List (ClassId × FieldType)) (adK adV : Nat → Nat) (fo : Option Nat) (rd krd tp ktp cd bb tl : Nat) (a1 : Int32) (sz : Nat) (R0 : RS ws tys rd krd tp ktp cd bb tl)  : Met l yX4_readNumber wsX4_readNumber ({ frames := 2, cells := 0, slots := 0, locals := 43 }) (va_Pc [.ref rd, .int a1] (fun U => U.heap.size = sz ∧ va_P D vwCl ws U.heap ∧ va_K D vwCl tys U ∧ va_D (fun _ => True) ws ∧ SZ adK adV fo (va_A ws sz) U U.heap)) (va_Qi (fun (r : Int32) (_ : Unit) => r = 0 ∨ r = 1) (fun (_ : Unit) (t : State) => ∃ (ws' : va_W) (tys' : List (ClassId × FieldType)), sm [4, 6] ws ws' ∧ tyx tys tys' ∧ va_P D vwCl ws' t.heap ∧ va_K D vwCl tys' t ∧ va_D (va_A ws sz) ws' ∧ RS ws' tys' rd krd tp ktp cd bb tl) (va_A ws sz)) 0 0 (va_A ws sz) := by
  refine Met.ofW (cc := cX4_readNumber) (maxL := 2) (ret := (some .boolean)) (by decide) rfl ?_
  intro p e s m args below meth c s₁ B hml hv
  obtain ⟨rfl, hsz, hP, hK, hD0, hsz9⟩ := hv
  have hx := B.exec
  have hb := B.bytes
  have hr := B.returns
  have hts := atoms_spec (ws := wsX4_readNumber) B.pre
  have hown : s.vm.findClass RX4 = some m.cls := findClass_of_methodNamed B.named
  have hlocks := B.notSynchronized
  subst hsz
  have hD := hD0.self (sz := s.heap.size)
  generalize hAe : va_A ws s.heap.size = A at hD hsz9 ⊢
  have hA : ∀ q : Nat, s.heap.size ≤ q → A q := fun q h => by rw [← hAe]; exact Or.inr h
  have hS : va_S A s.heap s.heap [] := va_S.rf
  have hsm : sm [4, 6] ws ws := sm.rf ws
  have htx : tyx tys tys := tyx.rf tys
  have hin4 : ∀ w ∈ u_ws RX4 TX4 8, w ∈ wsX4_readNumber := (fun _ h9 => List.mem_cons_of_mem _ (List.mem_append_left _ ((List.mem_append_right _ h9))))
  have hin6 : ∀ w ∈ u_ws RX6 TX6 5, w ∈ wsX4_readNumber := (fun _ h9 => List.mem_cons_of_mem _ ((List.mem_append_right _ h9)))
  have hl := lv_entry ([.ref rd, .int a1]) (n := 2) (Nat.le_of_ble_eq_true rfl)
  rw [lg_entry_eq]
  generalize (lg_sl ([.ref rd, .int a1]) ++ List.replicate (2 - (lg_sl ([.ref rd, .int a1])).length) Slot.unset).toArray = ls at hl ⊢
  have hl : lv_has ls 2 [(0, .ref rd), (1, .int a1)] := hl
  obtain ⟨ts_1, te_2, cc_3, ra_4, rb_5, rc_6, rv_7, re_8, ya_9, h1_10, h2_11, h3_12, h4_13, er_14, et_15, ⟨k_16, c9_17, t_18, f_19, e_20, u_21⟩, ⟨k_22, c9_23, t_24, f_25, e_26, u_27⟩⟩ := id R0
  refine lv_aload_n hx hb dX4_readNumber_0 rfl (lv_at hl 0 rfl) ?_
  refine va_get (D := D) (ci := 4) (v := .ref tp) (C := RX4) (T := TX4) (N := 8) hx hb hts hin4 hown hK hP krd er_14 rfl 0 (by decide) (hts (.fieldLink RX4 12 "HoneyHouse$RuleReader" "tape" "LHoneyHouse$Tape;") (List.mem_of_getElem? (i := 1) rfl)) (fun _ h9 => h9) rfl dX4_readNumber_1 ?_
  refine va_get (D := D) (ci := 6) (v := .int ya_9) (C := RX6) (T := TX6) (N := 5) hx hb hts hin6 hown hK hP ktp et_15 rfl 1 (by decide) (hts (.fieldLink RX4 61 "HoneyHouse$Tape" "kind" "I") (List.mem_of_getElem? (i := 2) rfl)) (fun _ h9 => h9) rfl dX4_readNumber_4 ?_
  refine lv_iconst (v := 2) hx hb dX4_readNumber_7 (by decide) ?_
  refine lv_icmp_eq (tgt := 16) hx hb dX4_readNumber_8 (by decide) (fun c_28 => ?_) (fun c_28 => ?_)
  · refine lv_aload_n hx hb dX4_readNumber_16 rfl (lv_at hl 0 rfl) ?_
    refine va_get (D := D) (ci := 4) (v := .ref tp) (C := RX4) (T := TX4) (N := 8) hx hb hts hin4 hown hK hP krd er_14 rfl 0 (by decide) (hts (.fieldLink RX4 12 "HoneyHouse$RuleReader" "tape" "LHoneyHouse$Tape;") (List.mem_of_getElem? (i := 1) rfl)) (fun _ h9 => h9) rfl dX4_readNumber_17 ?_
    refine va_get (D := D) (ci := 6) (v := .int (nI te_2)) (C := RX6) (T := TX6) (N := 5) hx hb hts hin6 hown hK hP ktp et_15 rfl 3 (by decide) (hts (.fieldLink RX4 83 "HoneyHouse$Tape" "end" "I") (List.mem_of_getElem? (i := 3) rfl)) (fun _ h9 => h9) rfl dX4_readNumber_20 ?_
    refine lv_aload_n hx hb dX4_readNumber_23 rfl (lv_at hl 0 rfl) ?_
    refine va_get (D := D) (ci := 4) (v := .ref tp) (C := RX4) (T := TX4) (N := 8) hx hb hts hin4 hown hK hP krd er_14 rfl 0 (by decide) (hts (.fieldLink RX4 12 "HoneyHouse$RuleReader" "tape" "LHoneyHouse$Tape;") (List.mem_of_getElem? (i := 1) rfl)) (fun _ h9 => h9) rfl dX4_readNumber_24 ?_
    refine va_get (D := D) (ci := 6) (v := .int (nI ts_1)) (C := RX6) (T := TX6) (N := 5) hx hb hts hin6 hown hK hP ktp et_15 rfl 2 (by decide) (hts (.fieldLink RX4 73 "HoneyHouse$Tape" "start" "I") (List.mem_of_getElem? (i := 4) rfl)) (fun _ h9 => h9) rfl dX4_readNumber_27 ?_
    refine lv_isub hx hb dX4_readNumber_30 ?_
    refine lv_topi (fun z_29 _ => ?_)
    refine lv_iconst (v := 5) hx hb dX4_readNumber_31 (by decide) ?_
    refine lv_icmp_le (tgt := 50) hx hb dX4_readNumber_32 (by decide) (fun c_30 => ?_) (fun c_30 => ?_)
    · refine lv_aload_n hx hb dX4_readNumber_50 rfl (lv_at hl 0 rfl) ?_
      refine lv_aload_n hx hb dX4_readNumber_51 rfl (lv_at hl 0 rfl) ?_
      refine va_get (D := D) (ci := 4) (v := .ref tp) (C := RX4) (T := TX4) (N := 8) hx hb hts hin4 hown hK hP krd er_14 rfl 0 (by decide) (hts (.fieldLink RX4 12 "HoneyHouse$RuleReader" "tape" "LHoneyHouse$Tape;") (List.mem_of_getElem? (i := 1) rfl)) (fun _ h9 => h9) rfl dX4_readNumber_52 ?_
      have hFc := free_all hD hS hA
      refine va_calli (va_runV (As := []) (rest := [.ref rd]) ⟨hx, hb, hml, hown, hts⟩ (a_numberValue l D ws tys tp ktp tl ts_1 te_2 ya_9 bb k_22 c9_23 t_24 f_25 s.heap.size (by omega) (by omega) et_15 e_26 u_27) (cwV 0 hts gX4_readNumber_X6_numberValue rfl rfl rfl (by decide +kernel) ⟨Nat.le_of_ble_eq_true rfl, Nat.le_of_ble_eq_true rfl⟩) ⟨fun a U g mk q => by obtain ⟨q0, q1, qP, qK, qD⟩ := q; exact ⟨q0, q1, qP, va_K.moved (u := U) (U := U.calling g mk a) (Vm.Alike.refl U.vm) qK, qD⟩, va_recv hK hP (ci := 6) (q0 := ktp) rfl et_15, fun U hU hW => ⟨rfl, by rw [hU], by rw [hU]; exact hP, va_K.moved hW.alike hK, hD.weaken (fun _ _ _ _ => trivial)⟩⟩ rfl rfl hl.1 rfl (lv_room (Nat.le_of_ble_eq_true rfl)) dX4_readNumber_55 ⟨Nat.le_of_ble_eq_true rfl, Nat.le_of_ble_eq_true rfl⟩) hS (fun q _ h => hFc q h) hFc (fun r_31 u t H1 locs ht hvm w_32 hB hz1 hk1 hS => ?_)
      obtain ⟨ws_33, ty_34, hm_35, ht_37, hP1, hK1, hD1, hx_36⟩ := hB
      rw [ht] at hP1
      have hK := va_K.moved hvm.symm hK1
      have hD := hD1.weaken (fun _ _ _ h => hFc _ h)
      generalize H1 = H at hP1 hS ⊢
      have hP := hP1
      have e_38 := hm_35.objK er_14 (by decide)
      have e_39 := hm_35.objK et_15 (by decide)
      obtain ⟨f_41, e_40⟩ := hm_35.arrI e_20
      have u_42 := ht_37 _ _ u_21
      obtain ⟨f_44, e_43⟩ := hm_35.arrI e_26
      have u_45 := ht_37 _ _ u_27
      have hsm := hsm.tr (hm_35.mono (by decide))
      have htx := htx.tr ht_37
      refine va_put (D := D) (ci := 4) (v := .int r_31) (ty := .int) (C := RX4) (T := TX4) (N := 8) hx hb hts hin4 tyX4 tyX4_ok nmX4 hown hK hP hD hS krd e_38 rfl 7 (by decide) (hts (.fieldLink RX4 56 "HoneyHouse$RuleReader" "value" "I") (List.mem_of_getElem? (i := 5) rfl)) (fun _ h9 => h9) rfl (tyX4_ok 7 (by decide)) rfl rfl (Nat.le_of_ble_eq_true rfl) dX4_readNumber_58 (fun H locs hP hD hS => ?_)
      have hP : va_P D vwCl (ws_33.set krd (rd, .inr (4, [.ref tp, .long ra_4, .int rb_5, .int rc_6, .int rv_7, .ref cd, .int (nI cc_3), .int r_31]))) H := hP
      have hD : va_D A (ws_33.set krd (rd, .inr (4, [.ref tp, .long ra_4, .int rb_5, .int rc_6, .int rv_7, .ref cd, .int (nI cc_3), .int r_31]))) := hD
      have hm_47 : sm [4] ws_33 (ws_33.set krd (rd, .inr (4, [.ref tp, .long ra_4, .int rb_5, .int rc_6, .int rv_7, .ref cd, .int (nI cc_3), .int r_31]))) := sm.flds e_38 (smF.c (smV.rf _) (smF.c (smV.rf _) (smF.c (smV.rf _) (smF.c (smV.rf _) (smF.c (smV.rf _) (smF.c (smV.rf _) (smF.c (smV.rf _) (smF.c (smV.i _ _) (rfl))))))))) (List.mem_singleton.mpr rfl)
      have e_48 : (ws_33.set krd (rd, .inr (4, [.ref tp, .long ra_4, .int rb_5, .int rc_6, .int rv_7, .ref cd, .int (nI cc_3), .int r_31])))[krd]? = some (rd, .inr (4, [.ref tp, .long ra_4, .int rb_5, .int rc_6, .int rv_7, .ref cd, .int (nI cc_3), .int r_31])) := wset_self e_38
      generalize ws_33.set krd (rd, .inr (4, [.ref tp, .long ra_4, .int rb_5, .int rc_6, .int rv_7, .ref cd, .int (nI cc_3), .int r_31])) = ws_46 at hP hD hm_47 e_48
      have e_49 := hm_47.objK e_39 (by decide)
      obtain ⟨f_51, e_50⟩ := hm_47.arrI e_40
      obtain ⟨f_53, e_52⟩ := hm_47.arrI e_43
      have hsm := hsm.tr (hm_47.mono (by decide))
      refine lv_aload_n hx hb dX4_readNumber_61 rfl (lv_at hl 0 rfl) ?_
      refine va_get (D := D) (ci := 4) (v := .int r_31) (C := RX4) (T := TX4) (N := 8) hx hb hts hin4 hown hK hP krd e_48 rfl 7 (by decide) (hts (.fieldLink RX4 56 "HoneyHouse$RuleReader" "value" "I") (List.mem_of_getElem? (i := 5) rfl)) (fun _ h9 => h9) rfl dX4_readNumber_62 ?_
      refine lv_iload_n hx hb dX4_readNumber_65 rfl (lv_at hl 1 rfl) ?_
      refine lv_icmp_le (tgt := 82) hx hb dX4_readNumber_66 (by decide) (fun c_54 => ?_) (fun c_54 => ?_)
      · refine lv_aload_n hx hb dX4_readNumber_82 rfl (lv_at hl 0 rfl) ?_
        refine va_get (D := D) (ci := 4) (v := .ref tp) (C := RX4) (T := TX4) (N := 8) hx hb hts hin4 hown hK hP krd e_48 rfl 0 (by decide) (hts (.fieldLink RX4 12 "HoneyHouse$RuleReader" "tape" "LHoneyHouse$Tape;") (List.mem_of_getElem? (i := 1) rfl)) (fun _ h9 => h9) rfl dX4_readNumber_83 ?_
        have hFc := free_all hD hS hA
        refine va_callv (va_runV (As := []) (rest := []) ⟨hx, hb, hml, hown, hts⟩ (a_advance l D ws_46 ty_34 tp ktp tl te_2 ya_9 (nI ts_1) bb k_22 c9_23 t_24 f_53 H.size (by omega) (by omega) e_49 e_52 u_45) (cwV 0 hts gX4_readNumber_X6_advance rfl rfl rfl (by decide +kernel) ⟨Nat.le_of_ble_eq_true rfl, Nat.le_of_ble_eq_true rfl⟩) ⟨fun a U g mk q => by obtain ⟨q0, q1, qP, qK, qD⟩ := q; exact ⟨q0, q1, qP, va_K.moved (u := U) (U := U.calling g mk a) (Vm.Alike.refl U.vm) qK, qD⟩, va_recv hK hP (ci := 6) (q0 := ktp) rfl e_49, fun U hU hW => ⟨rfl, by rw [hU], by rw [hU]; exact hP, va_K.moved hW.alike hK, hD.weaken (fun _ _ _ _ => trivial)⟩⟩ rfl rfl hl.1 rfl (lv_room (Nat.le_of_ble_eq_true rfl)) dX4_readNumber_86 ⟨Nat.le_of_ble_eq_true rfl, Nat.le_of_ble_eq_true rfl⟩) hS (fun q _ h => hFc q h) hFc (fun u t H1 locs ht hvm w_56 hB hz1 hk1 hS => ?_)
        obtain ⟨ws_57, ty_58, hm_59, ht_61, hP1, hK1, hD1, hx_60⟩ := hB
        rw [ht] at hP1
        have hK := va_K.moved hvm.symm hK1
        have hD := hD1.weaken (fun _ _ _ h => hFc _ h)
        generalize H1 = H at hP1 hS ⊢
        have hP := hP1
        have e_62 := hm_59.objK e_48 (by decide)
        obtain ⟨g_64, e_63, h_65⟩ := hm_59.obj e_49
        obtain ⟨z_66, z_67, z_68, z_69, rfl⟩ := smX6 h_65
        obtain ⟨f_71, e_70⟩ := hm_59.arrI e_50
        have u_72 := ht_61 _ _ u_42
        obtain ⟨f_74, e_73⟩ := hm_59.arrI e_52
        have u_75 := ht_61 _ _ u_45
        have hsm := hsm.tr (hm_59.mono (by decide))
        have htx := htx.tr ht_61
        obtain ⟨k_76, s_77, e_78, h_79, h_80, h_81, e_82⟩ := hx_60
        refine lv_iconst (v := 1) hx hb dX4_readNumber_89 (by decide) ?_
        exact W.zret (v := 1) hx hb hr rfl (fun t ht hW => ⟨⟨1, (), rfl, Or.inr rfl, ws_57, ty_58, hsm, htx, by rw [ht]; exact hP, va_K.moved hW.alike hK, hD, (⟨s_77, e_78, cc_3, ra_4, rb_5, rc_6, rv_7, r_31, nI k_76, by omega, by omega, by omega, by omega, e_62, e_82, ⟨k_16, c9_17, t_18, f_71, e_70, u_72⟩, ⟨k_22, c9_23, t_24, f_74, e_73, u_75⟩⟩ : RS ws_57 ty_58 rd krd tp ktp cd bb tl)⟩, hS.F ht⟩) hS.2.2 dX4_readNumber_90
      refine lv_aload_n hx hb dX4_readNumber_69 rfl (lv_at hl 0 rfl) ?_
      refine lv_iconst (v := 2) hx hb dX4_readNumber_70 (by decide) ?_
      refine lv_aload_n hx hb dX4_readNumber_71 rfl (lv_at hl 0 rfl) ?_
      refine va_get (D := D) (ci := 4) (v := .ref tp) (C := RX4) (T := TX4) (N := 8) hx hb hts hin4 hown hK hP krd e_48 rfl 0 (by decide) (hts (.fieldLink RX4 12 "HoneyHouse$RuleReader" "tape" "LHoneyHouse$Tape;") (List.mem_of_getElem? (i := 1) rfl)) (fun _ h9 => h9) rfl dX4_readNumber_72 ?_
      refine va_get (D := D) (ci := 6) (v := .int (nI ts_1)) (C := RX6) (T := TX6) (N := 5) hx hb hts hin6 hown hK hP ktp e_49 rfl 2 (by decide) (hts (.fieldLink RX4 73 "HoneyHouse$Tape" "start" "I") (List.mem_of_getElem? (i := 4) rfl)) (fun _ h9 => h9) rfl dX4_readNumber_75 ?_
      have hFc := free_all hD hS hA
      refine va_calli (va_runV (As := [.int 2, .int (nI ts_1)]) (rest := []) ⟨hx, hb, hml, hown, hts⟩ (r_failAt l D ws_46 ty_34 adK adV fo rd krd tp ktp cd bb tl 2 (nI ts_1) H.size (⟨ts_1, te_2, cc_3, ra_4, rb_5, rc_6, rv_7, r_31, ya_9, by omega, by omega, by omega, by omega, e_48, e_49, ⟨k_16, c9_17, t_18, f_51, e_50, u_42⟩, ⟨k_22, c9_23, t_24, f_53, e_52, u_45⟩⟩ : RS ws_46 ty_34 rd krd tp ktp cd bb tl)) (cwV 2 hts gX4_readNumber_X4_failAt rfl rfl rfl (by decide +kernel) ⟨Nat.le_of_ble_eq_true rfl, Nat.le_of_ble_eq_true rfl⟩) ⟨fun a U g mk q => by obtain ⟨q0, q1, qP, qK, qD, qS⟩ := q; exact ⟨q0, q1, qP, va_K.moved (u := U) (U := U.calling g mk a) (Vm.Alike.refl U.vm) qK, qD, SZ.same rfl rfl qS⟩, va_recv hK hP (ci := 4) (q0 := krd) rfl e_48, fun U hU hW => ⟨rfl, by rw [hU], by rw [hU]; exact hP, va_K.moved hW.alike hK, hD.weaken (fun _ _ _ _ => trivial), hsz9.go hS hW hU hFc⟩⟩ rfl rfl hl.1 rfl (lv_room (Nat.le_of_ble_eq_true rfl)) dX4_readNumber_78 ⟨Nat.le_of_ble_eq_true rfl, Nat.le_of_ble_eq_true rfl⟩) hS (fun q _ h => hFc q h) hFc (fun r_83 u t H1 locs ht hvm w_84 hB hz1 hk1 hS => ?_)
      obtain ⟨ws_85, ty_86, hm_87, ht_89, hP1, hK1, hD1, hx_88⟩ := hB
      rw [ht] at hP1
      have hK := va_K.moved hvm.symm hK1
      have hD := hD1.weaken (fun _ _ _ h => hFc _ h)
      generalize H1 = H at hP1 hS ⊢
      have hP := hP1
      obtain ⟨g_91, e_90, h_92⟩ := hm_87.obj e_48
      obtain ⟨z_93, z_94, z_95, z_96, z_97, z_98, rfl⟩ := smX4 h_92
      obtain ⟨g_100, e_99, h_101⟩ := hm_87.obj e_49
      obtain ⟨z_102, z_103, z_104, z_105, rfl⟩ := smX6 h_101
      obtain ⟨f_107, e_106⟩ := hm_87.arrI e_50
      have u_108 := ht_89 _ _ u_42
      obtain ⟨f_110, e_109⟩ := hm_87.arrI e_52
      have u_111 := ht_89 _ _ u_45
      have hsm := hsm.tr (hm_87.mono (by decide))
      have htx := htx.tr ht_89
      obtain ⟨ts_112, te_113, cc_114, ra_115, rb_116, rc_117, rv_118, re_119, ya_120, h1_121, h2_122, h3_123, h4_124, er_125, et_126, ⟨k_127, c9_128, t_129, f_130, e_131, u_132⟩, ⟨k_133, c9_134, t_135, f_136, e_137, u_138⟩⟩ := id hx_88
      subst w_84
      exact W.zret (v := 0) hx hb hr rfl (fun t ht hW => ⟨⟨0, (), rfl, Or.inl rfl, ws_85, ty_86, hsm, htx, by rw [ht]; exact hP, va_K.moved hW.alike hK, hD, (⟨ts_112, te_113, cc_114, ra_115, rb_116, rc_117, rv_118, re_119, ya_120, by omega, by omega, by omega, by omega, er_125, et_126, ⟨k_127, c9_128, t_129, f_130, e_131, u_132⟩, ⟨k_133, c9_134, t_135, f_136, e_137, u_138⟩⟩ : RS ws_85 ty_86 rd krd tp ktp cd bb tl)⟩, hS.F ht⟩) hS.2.2 dX4_readNumber_81
    refine lv_aload_n hx hb dX4_readNumber_35 rfl (lv_at hl 0 rfl) ?_
    refine lv_iconst (v := 1) hx hb dX4_readNumber_36 (by decide) ?_
    refine lv_aload_n hx hb dX4_readNumber_37 rfl (lv_at hl 0 rfl) ?_
    refine va_get (D := D) (ci := 4) (v := .ref tp) (C := RX4) (T := TX4) (N := 8) hx hb hts hin4 hown hK hP krd er_14 rfl 0 (by decide) (hts (.fieldLink RX4 12 "HoneyHouse$RuleReader" "tape" "LHoneyHouse$Tape;") (List.mem_of_getElem? (i := 1) rfl)) (fun _ h9 => h9) rfl dX4_readNumber_38 ?_
    refine va_get (D := D) (ci := 6) (v := .int (nI ts_1)) (C := RX6) (T := TX6) (N := 5) hx hb hts hin6 hown hK hP ktp et_15 rfl 2 (by decide) (hts (.fieldLink RX4 73 "HoneyHouse$Tape" "start" "I") (List.mem_of_getElem? (i := 4) rfl)) (fun _ h9 => h9) rfl dX4_readNumber_41 ?_
    refine lv_iconst (v := 5) hx hb dX4_readNumber_44 (by decide) ?_
    refine lv_iadd hx hb dX4_readNumber_45 ?_
    refine tp_i (y := nI (ts_1 + 5)) (nI_add ts_1 5) ?_
    have hFc := free_all hD hS hA
    refine va_calli (va_runV (As := [.int 1, .int (nI (ts_1 + 5))]) (rest := []) ⟨hx, hb, hml, hown, hts⟩ (r_failAt l D ws tys adK adV fo rd krd tp ktp cd bb tl 1 (nI (ts_1 + 5)) s.heap.size (⟨ts_1, te_2, cc_3, ra_4, rb_5, rc_6, rv_7, re_8, ya_9, by omega, by omega, by omega, by omega, er_14, et_15, ⟨k_16, c9_17, t_18, f_19, e_20, u_21⟩, ⟨k_22, c9_23, t_24, f_25, e_26, u_27⟩⟩ : RS ws tys rd krd tp ktp cd bb tl)) (cwV 2 hts gX4_readNumber_X4_failAt rfl rfl rfl (by decide +kernel) ⟨Nat.le_of_ble_eq_true rfl, Nat.le_of_ble_eq_true rfl⟩) ⟨fun a U g mk q => by obtain ⟨q0, q1, qP, qK, qD, qS⟩ := q; exact ⟨q0, q1, qP, va_K.moved (u := U) (U := U.calling g mk a) (Vm.Alike.refl U.vm) qK, qD, SZ.same rfl rfl qS⟩, va_recv hK hP (ci := 4) (q0 := krd) rfl er_14, fun U hU hW => ⟨rfl, by rw [hU], by rw [hU]; exact hP, va_K.moved hW.alike hK, hD.weaken (fun _ _ _ _ => trivial), hsz9.go hS hW hU hFc⟩⟩ rfl rfl hl.1 rfl (lv_room (Nat.le_of_ble_eq_true rfl)) dX4_readNumber_46 ⟨Nat.le_of_ble_eq_true rfl, Nat.le_of_ble_eq_true rfl⟩) hS (fun q _ h => hFc q h) hFc (fun r_139 u t H1 locs ht hvm w_140 hB hz1 hk1 hS => ?_)
    obtain ⟨ws_141, ty_142, hm_143, ht_145, hP1, hK1, hD1, hx_144⟩ := hB
    rw [ht] at hP1
    have hK := va_K.moved hvm.symm hK1
    have hD := hD1.weaken (fun _ _ _ h => hFc _ h)
    generalize H1 = H at hP1 hS ⊢
    have hP := hP1
    obtain ⟨g_147, e_146, h_148⟩ := hm_143.obj er_14
    obtain ⟨z_149, z_150, z_151, z_152, z_153, z_154, rfl⟩ := smX4 h_148
    obtain ⟨g_156, e_155, h_157⟩ := hm_143.obj et_15
    obtain ⟨z_158, z_159, z_160, z_161, rfl⟩ := smX6 h_157
    obtain ⟨f_163, e_162⟩ := hm_143.arrI e_20
    have u_164 := ht_145 _ _ u_21
    obtain ⟨f_166, e_165⟩ := hm_143.arrI e_26
    have u_167 := ht_145 _ _ u_27
    have hsm := hsm.tr (hm_143.mono (by decide))
    have htx := htx.tr ht_145
    obtain ⟨ts_168, te_169, cc_170, ra_171, rb_172, rc_173, rv_174, re_175, ya_176, h1_177, h2_178, h3_179, h4_180, er_181, et_182, ⟨k_183, c9_184, t_185, f_186, e_187, u_188⟩, ⟨k_189, c9_190, t_191, f_192, e_193, u_194⟩⟩ := id hx_144
    subst w_140
    exact W.zret (v := 0) hx hb hr rfl (fun t ht hW => ⟨⟨0, (), rfl, Or.inl rfl, ws_141, ty_142, hsm, htx, by rw [ht]; exact hP, va_K.moved hW.alike hK, hD, (⟨ts_168, te_169, cc_170, ra_171, rb_172, rc_173, rv_174, re_175, ya_176, by omega, by omega, by omega, by omega, er_181, et_182, ⟨k_183, c9_184, t_185, f_186, e_187, u_188⟩, ⟨k_189, c9_190, t_191, f_192, e_193, u_194⟩⟩ : RS ws_141 ty_142 rd krd tp ktp cd bb tl)⟩, hS.F ht⟩) hS.2.2 dX4_readNumber_49
  refine lv_aload_n hx hb dX4_readNumber_11 rfl (lv_at hl 0 rfl) ?_
  have hFc := free_all hD hS hA
  refine va_calli (va_runV (As := []) (rest := []) ⟨hx, hb, hml, hown, hts⟩ (r_failHere l D ws tys adK adV fo rd krd tp ktp cd bb tl  s.heap.size (⟨ts_1, te_2, cc_3, ra_4, rb_5, rc_6, rv_7, re_8, ya_9, by omega, by omega, by omega, by omega, er_14, et_15, ⟨k_16, c9_17, t_18, f_19, e_20, u_21⟩, ⟨k_22, c9_23, t_24, f_25, e_26, u_27⟩⟩ : RS ws tys rd krd tp ktp cd bb tl)) (cwV 0 hts gX4_readNumber_X4_failHere rfl rfl rfl (by decide +kernel) ⟨Nat.le_of_ble_eq_true rfl, Nat.le_of_ble_eq_true rfl⟩) ⟨fun a U g mk q => by obtain ⟨q0, q1, qP, qK, qD, qS⟩ := q; exact ⟨q0, q1, qP, va_K.moved (u := U) (U := U.calling g mk a) (Vm.Alike.refl U.vm) qK, qD, SZ.same rfl rfl qS⟩, va_recv hK hP (ci := 4) (q0 := krd) rfl er_14, fun U hU hW => ⟨rfl, by rw [hU], by rw [hU]; exact hP, va_K.moved hW.alike hK, hD.weaken (fun _ _ _ _ => trivial), hsz9.go hS hW hU hFc⟩⟩ rfl rfl hl.1 rfl (lv_room (Nat.le_of_ble_eq_true rfl)) dX4_readNumber_12 ⟨Nat.le_of_ble_eq_true rfl, Nat.le_of_ble_eq_true rfl⟩) hS (fun q _ h => hFc q h) hFc (fun r_195 u t H1 locs ht hvm w_196 hB hz1 hk1 hS => ?_)
  obtain ⟨ws_197, ty_198, hm_199, ht_201, hP1, hK1, hD1, hx_200⟩ := hB
  rw [ht] at hP1
  have hK := va_K.moved hvm.symm hK1
  have hD := hD1.weaken (fun _ _ _ h => hFc _ h)
  generalize H1 = H at hP1 hS ⊢
  have hP := hP1
  obtain ⟨g_203, e_202, h_204⟩ := hm_199.obj er_14
  obtain ⟨z_205, z_206, z_207, z_208, z_209, z_210, rfl⟩ := smX4 h_204
  obtain ⟨g_212, e_211, h_213⟩ := hm_199.obj et_15
  obtain ⟨z_214, z_215, z_216, z_217, rfl⟩ := smX6 h_213
  obtain ⟨f_219, e_218⟩ := hm_199.arrI e_20
  have u_220 := ht_201 _ _ u_21
  obtain ⟨f_222, e_221⟩ := hm_199.arrI e_26
  have u_223 := ht_201 _ _ u_27
  have hsm := hsm.tr (hm_199.mono (by decide))
  have htx := htx.tr ht_201
  obtain ⟨ts_224, te_225, cc_226, ra_227, rb_228, rc_229, rv_230, re_231, ya_232, h1_233, h2_234, h3_235, h4_236, er_237, et_238, ⟨k_239, c9_240, t_241, f_242, e_243, u_244⟩, ⟨k_245, c9_246, t_247, f_248, e_249, u_250⟩⟩ := id hx_200
  subst w_196
  exact W.zret (v := 0) hx hb hr rfl (fun t ht hW => ⟨⟨0, (), rfl, Or.inl rfl, ws_197, ty_198, hsm, htx, by rw [ht]; exact hP, va_K.moved hW.alike hK, hD, (⟨ts_224, te_225, cc_226, ra_227, rb_228, rc_229, rv_230, re_231, ya_232, by omega, by omega, by omega, by omega, er_237, et_238, ⟨k_239, c9_240, t_241, f_242, e_243, u_244⟩, ⟨k_245, c9_246, t_247, f_248, e_249, u_250⟩⟩ : RS ws_197 ty_198 rd krd tp ktp cd bb tl)⟩, hS.F ht⟩) hS.2.2 dX4_readNumber_15
set_option maxHeartbeats 4000000 in
set_option maxRecDepth 100000 in
theorem r_readName (l : Launch) (D : va_G) (ws : va_W) (tys : List (ClassId × FieldType)) (adK adV : Nat → Nat) (fo : Option Nat) (rd krd tp ktp cd bb tl : Nat)  (sz : Nat) (R0 : RS ws tys rd krd tp ktp cd bb tl)  : Met l yX4_readName wsX4_readName ({ frames := 7, cells := 0, slots := 0, locals := 147 }) (va_Pc [.ref rd] (fun U => U.heap.size = sz ∧ va_P D vwCl ws U.heap ∧ va_K D vwCl tys U ∧ va_D (fun _ => True) ws ∧ SZ adK adV fo (va_A ws sz) U U.heap)) (va_Qi (fun (r : Int32) (_ : Unit) => r = 0 ∨ r = 1) (fun (_ : Unit) (t : State) => ∃ (ws' : va_W) (tys' : List (ClassId × FieldType)), sm [4, 6] ws ws' ∧ tyx tys tys' ∧ va_P D vwCl ws' t.heap ∧ va_K D vwCl tys' t ∧ va_D (va_A ws sz) ws' ∧ RS ws' tys' rd krd tp ktp cd bb tl) (va_A ws sz)) 0 0 (va_A ws sz) := by
  refine Met.ofW (cc := cX4_readName) (maxL := 1) (ret := (some .boolean)) (by decide) rfl ?_
  intro p e s m args below meth c s₁ B hml hv
  obtain ⟨rfl, hsz, hP, hK, hD0, hsz9⟩ := hv
  have hx := B.exec
  have hb := B.bytes
  have hr := B.returns
  have hts := atoms_spec (ws := wsX4_readName) B.pre
  have hown : s.vm.findClass RX4 = some m.cls := findClass_of_methodNamed B.named
  have hlocks := B.notSynchronized
  subst hsz
  have hD := hD0.self (sz := s.heap.size)
  generalize hAe : va_A ws s.heap.size = A at hD hsz9 ⊢
  have hA : ∀ q : Nat, s.heap.size ≤ q → A q := fun q h => by rw [← hAe]; exact Or.inr h
  have hS : va_S A s.heap s.heap [] := va_S.rf
  have hsm : sm [4, 6] ws ws := sm.rf ws
  have htx : tyx tys tys := tyx.rf tys
  have hin4 : ∀ w ∈ u_ws RX4 TX4 8, w ∈ wsX4_readName := (fun _ h9 => List.mem_cons_of_mem _ (List.mem_append_left _ ((List.mem_append_right _ h9))))
  have hin6 : ∀ w ∈ u_ws RX6 TX6 5, w ∈ wsX4_readName := (fun _ h9 => List.mem_cons_of_mem _ ((List.mem_append_right _ h9)))
  have hl := lv_entry ([.ref rd]) (n := 1) (Nat.le_of_ble_eq_true rfl)
  rw [lg_entry_eq]
  generalize (lg_sl ([.ref rd]) ++ List.replicate (1 - (lg_sl ([.ref rd])).length) Slot.unset).toArray = ls at hl ⊢
  have hl : lv_has ls 1 [(0, .ref rd)] := hl
  obtain ⟨ts_1, te_2, cc_3, ra_4, rb_5, rc_6, rv_7, re_8, ya_9, h1_10, h2_11, h3_12, h4_13, er_14, et_15, ⟨k_16, c9_17, t_18, f_19, e_20, u_21⟩, ⟨k_22, c9_23, t_24, f_25, e_26, u_27⟩⟩ := id R0
  refine lv_aload_n hx hb dX4_readName_0 rfl (lv_at hl 0 rfl) ?_
  refine va_get (D := D) (ci := 4) (v := .ref tp) (C := RX4) (T := TX4) (N := 8) hx hb hts hin4 hown hK hP krd er_14 rfl 0 (by decide) (hts (.fieldLink RX4 12 "HoneyHouse$RuleReader" "tape" "LHoneyHouse$Tape;") (List.mem_of_getElem? (i := 1) rfl)) (fun _ h9 => h9) rfl dX4_readName_1 ?_
  refine va_get (D := D) (ci := 6) (v := .int ya_9) (C := RX6) (T := TX6) (N := 5) hx hb hts hin6 hown hK hP ktp et_15 rfl 1 (by decide) (hts (.fieldLink RX4 61 "HoneyHouse$Tape" "kind" "I") (List.mem_of_getElem? (i := 2) rfl)) (fun _ h9 => h9) rfl dX4_readName_4 ?_
  refine lv_iconst (v := 1) hx hb dX4_readName_7 (by decide) ?_
  refine lv_icmp_ne (tgt := 18) hx hb dX4_readName_8 (by decide) (fun c_28 => ?_) (fun c_28 => ?_)
  · refine lv_aload_n hx hb dX4_readName_18 rfl (lv_at hl 0 rfl) ?_
    have hFc := free_all hD hS hA
    refine va_calli (va_runV (As := []) (rest := []) ⟨hx, hb, hml, hown, hts⟩ (r_failHere l D ws tys adK adV fo rd krd tp ktp cd bb tl  s.heap.size (⟨ts_1, te_2, cc_3, ra_4, rb_5, rc_6, rv_7, re_8, ya_9, by omega, by omega, by omega, by omega, er_14, et_15, ⟨k_16, c9_17, t_18, f_19, e_20, u_21⟩, ⟨k_22, c9_23, t_24, f_25, e_26, u_27⟩⟩ : RS ws tys rd krd tp ktp cd bb tl)) (cwV 0 hts gX4_readName_X4_failHere rfl rfl rfl (by decide +kernel) ⟨Nat.le_of_ble_eq_true rfl, Nat.le_of_ble_eq_true rfl⟩) ⟨fun a U g mk q => by obtain ⟨q0, q1, qP, qK, qD, qS⟩ := q; exact ⟨q0, q1, qP, va_K.moved (u := U) (U := U.calling g mk a) (Vm.Alike.refl U.vm) qK, qD, SZ.same rfl rfl qS⟩, va_recv hK hP (ci := 4) (q0 := krd) rfl er_14, fun U hU hW => ⟨rfl, by rw [hU], by rw [hU]; exact hP, va_K.moved hW.alike hK, hD.weaken (fun _ _ _ _ => trivial), hsz9.go hS hW hU hFc⟩⟩ rfl rfl hl.1 rfl (lv_room (Nat.le_of_ble_eq_true rfl)) dX4_readName_19 ⟨Nat.le_of_ble_eq_true rfl, Nat.le_of_ble_eq_true rfl⟩) hS (fun q _ h => hFc q h) hFc (fun r_29 u t H1 locs ht hvm w_30 hB hz1 hk1 hS => ?_)
    obtain ⟨ws_31, ty_32, hm_33, ht_35, hP1, hK1, hD1, hx_34⟩ := hB
    rw [ht] at hP1
    have hK := va_K.moved hvm.symm hK1
    have hD := hD1.weaken (fun _ _ _ h => hFc _ h)
    generalize H1 = H at hP1 hS ⊢
    have hP := hP1
    obtain ⟨g_37, e_36, h_38⟩ := hm_33.obj er_14
    obtain ⟨z_39, z_40, z_41, z_42, z_43, z_44, rfl⟩ := smX4 h_38
    obtain ⟨g_46, e_45, h_47⟩ := hm_33.obj et_15
    obtain ⟨z_48, z_49, z_50, z_51, rfl⟩ := smX6 h_47
    obtain ⟨f_53, e_52⟩ := hm_33.arrI e_20
    have u_54 := ht_35 _ _ u_21
    obtain ⟨f_56, e_55⟩ := hm_33.arrI e_26
    have u_57 := ht_35 _ _ u_27
    have hsm := hsm.tr (hm_33.mono (by decide))
    have htx := htx.tr ht_35
    obtain ⟨ts_58, te_59, cc_60, ra_61, rb_62, rc_63, rv_64, re_65, ya_66, h1_67, h2_68, h3_69, h4_70, er_71, et_72, ⟨k_73, c9_74, t_75, f_76, e_77, u_78⟩, ⟨k_79, c9_80, t_81, f_82, e_83, u_84⟩⟩ := id hx_34
    subst w_30
    exact W.zret (v := 0) hx hb hr rfl (fun t ht hW => ⟨⟨0, (), rfl, Or.inl rfl, ws_31, ty_32, hsm, htx, by rw [ht]; exact hP, va_K.moved hW.alike hK, hD, (⟨ts_58, te_59, cc_60, ra_61, rb_62, rc_63, rv_64, re_65, ya_66, by omega, by omega, by omega, by omega, er_71, et_72, ⟨k_73, c9_74, t_75, f_76, e_77, u_78⟩, ⟨k_79, c9_80, t_81, f_82, e_83, u_84⟩⟩ : RS ws_31 ty_32 rd krd tp ktp cd bb tl)⟩, hS.F ht⟩) hS.2.2 dX4_readName_22
  refine lv_aload_n hx hb dX4_readName_11 rfl (lv_at hl 0 rfl) ?_
  have hFc := free_all hD hS hA
  refine va_calli (va_runV (As := []) (rest := []) ⟨hx, hb, hml, hown, hts⟩ (r_isKeptWord l D ws tys adK adV fo rd krd tp ktp cd bb tl  s.heap.size (⟨ts_1, te_2, cc_3, ra_4, rb_5, rc_6, rv_7, re_8, ya_9, by omega, by omega, by omega, by omega, er_14, et_15, ⟨k_16, c9_17, t_18, f_19, e_20, u_21⟩, ⟨k_22, c9_23, t_24, f_25, e_26, u_27⟩⟩ : RS ws tys rd krd tp ktp cd bb tl)) (cwV 0 hts gX4_readName_X4_isKeptWord rfl rfl rfl (by decide +kernel) ⟨Nat.le_of_ble_eq_true rfl, Nat.le_of_ble_eq_true rfl⟩) ⟨fun a U g mk q => by obtain ⟨q0, q1, qP, qK, qD, qS⟩ := q; exact ⟨q0, q1, qP, va_K.moved (u := U) (U := U.calling g mk a) (Vm.Alike.refl U.vm) qK, qD, SZ.same rfl rfl qS⟩, va_recv hK hP (ci := 4) (q0 := krd) rfl er_14, fun U hU hW => ⟨rfl, by rw [hU], by rw [hU]; exact hP, va_K.moved hW.alike hK, hD.weaken (fun _ _ _ _ => trivial), hsz9.go hS hW hU hFc⟩⟩ rfl rfl hl.1 rfl (lv_room (Nat.le_of_ble_eq_true rfl)) dX4_readName_12 ⟨Nat.le_of_ble_eq_true rfl, Nat.le_of_ble_eq_true rfl⟩) hS (fun q _ h => hFc q h) hFc (fun r_85 u t H1 locs ht hvm w_86 hB hz1 hk1 hS => ?_)
  obtain ⟨ws_87, ty_88, hm_89, ht_91, hP1, hK1, hD1, hx_90⟩ := hB
  rw [ht] at hP1
  have hK := va_K.moved hvm.symm hK1
  have hD := hD1.weaken (fun _ _ _ h => hFc _ h)
  generalize H1 = H at hP1 hS ⊢
  have hP := hP1
  have e_92 := hm_89.objK er_14 (by decide)
  have e_93 := hm_89.objK et_15 (by decide)
  obtain ⟨f_95, e_94⟩ := hm_89.arrI e_20
  have u_96 := ht_91 _ _ u_21
  obtain ⟨f_98, e_97⟩ := hm_89.arrI e_26
  have u_99 := ht_91 _ _ u_27
  have hsm := hsm.tr (hm_89.mono (by decide))
  have htx := htx.tr ht_91
  rcases w_86 with rfl | rfl
  · refine lv_if_eq (tgt := 23) hx hb dX4_readName_15 (by decide) (fun c_100 => ?_) (fun c_100 => absurd (by decide) c_100)
    refine lv_aload_n hx hb dX4_readName_23 rfl (lv_at hl 0 rfl) ?_
    refine va_get (D := D) (ci := 4) (v := .ref tp) (C := RX4) (T := TX4) (N := 8) hx hb hts hin4 hown hK hP krd e_92 rfl 0 (by decide) (hts (.fieldLink RX4 12 "HoneyHouse$RuleReader" "tape" "LHoneyHouse$Tape;") (List.mem_of_getElem? (i := 1) rfl)) (fun _ h9 => h9) rfl dX4_readName_24 ?_
    refine va_get (D := D) (ci := 6) (v := .int (nI te_2)) (C := RX6) (T := TX6) (N := 5) hx hb hts hin6 hown hK hP ktp e_93 rfl 3 (by decide) (hts (.fieldLink RX4 83 "HoneyHouse$Tape" "end" "I") (List.mem_of_getElem? (i := 3) rfl)) (fun _ h9 => h9) rfl dX4_readName_27 ?_
    refine lv_aload_n hx hb dX4_readName_30 rfl (lv_at hl 0 rfl) ?_
    refine va_get (D := D) (ci := 4) (v := .ref tp) (C := RX4) (T := TX4) (N := 8) hx hb hts hin4 hown hK hP krd e_92 rfl 0 (by decide) (hts (.fieldLink RX4 12 "HoneyHouse$RuleReader" "tape" "LHoneyHouse$Tape;") (List.mem_of_getElem? (i := 1) rfl)) (fun _ h9 => h9) rfl dX4_readName_31 ?_
    refine va_get (D := D) (ci := 6) (v := .int (nI ts_1)) (C := RX6) (T := TX6) (N := 5) hx hb hts hin6 hown hK hP ktp e_93 rfl 2 (by decide) (hts (.fieldLink RX4 73 "HoneyHouse$Tape" "start" "I") (List.mem_of_getElem? (i := 4) rfl)) (fun _ h9 => h9) rfl dX4_readName_34 ?_
    refine lv_isub hx hb dX4_readName_37 ?_
    refine lv_topi (fun z_101 _ => ?_)
    refine lv_bipush (v := 12) hx hb dX4_readName_38 (by decide) ?_
    refine lv_icmp_le (tgt := 59) hx hb dX4_readName_40 (by decide) (fun c_102 => ?_) (fun c_102 => ?_)
    · refine lv_aload_n hx hb dX4_readName_59 rfl (lv_at hl 0 rfl) ?_
      refine lv_aload_n hx hb dX4_readName_60 rfl (lv_at hl 0 rfl) ?_
      refine va_get (D := D) (ci := 4) (v := .ref tp) (C := RX4) (T := TX4) (N := 8) hx hb hts hin4 hown hK hP krd e_92 rfl 0 (by decide) (hts (.fieldLink RX4 12 "HoneyHouse$RuleReader" "tape" "LHoneyHouse$Tape;") (List.mem_of_getElem? (i := 1) rfl)) (fun _ h9 => h9) rfl dX4_readName_61 ?_
      have hFc := free_all hD hS hA
      refine va_calll (va_runV (As := []) (rest := [.ref rd]) ⟨hx, hb, hml, hown, hts⟩ (a_wordKey l D ws_87 ty_88 tp ktp tl ts_1 te_2 ya_9 bb k_22 c9_23 t_24 f_98 H.size (by omega) (by omega) e_93 e_97 u_99) (cwV 0 hts gX4_readName_X6_wordKey rfl rfl rfl (by decide +kernel) ⟨Nat.le_of_ble_eq_true rfl, Nat.le_of_ble_eq_true rfl⟩) ⟨fun a U g mk q => by obtain ⟨q0, q1, qP, qK, qD⟩ := q; exact ⟨q0, q1, qP, va_K.moved (u := U) (U := U.calling g mk a) (Vm.Alike.refl U.vm) qK, qD⟩, va_recv hK hP (ci := 6) (q0 := ktp) rfl e_93, fun U hU hW => ⟨rfl, by rw [hU], by rw [hU]; exact hP, va_K.moved hW.alike hK, hD.weaken (fun _ _ _ _ => trivial)⟩⟩ rfl rfl hl.1 rfl (lv_room (Nat.le_of_ble_eq_true rfl)) dX4_readName_64 ⟨Nat.le_of_ble_eq_true rfl, Nat.le_of_ble_eq_true rfl⟩) hS (fun q _ h => hFc q h) hFc (fun r_103 u t H1 locs ht hvm w_104 hB hz1 hk1 hS => ?_)
      obtain ⟨ws_105, ty_106, hm_107, ht_109, hP1, hK1, hD1, hx_108⟩ := hB
      rw [ht] at hP1
      have hK := va_K.moved hvm.symm hK1
      have hD := hD1.weaken (fun _ _ _ h => hFc _ h)
      generalize H1 = H at hP1 hS ⊢
      have hP := hP1
      have e_110 := hm_107.objK e_92 (by decide)
      have e_111 := hm_107.objK e_93 (by decide)
      obtain ⟨f_113, e_112⟩ := hm_107.arrI e_94
      have u_114 := ht_109 _ _ u_96
      obtain ⟨f_116, e_115⟩ := hm_107.arrI e_97
      have u_117 := ht_109 _ _ u_99
      have hsm := hsm.tr (hm_107.mono (by decide))
      have htx := htx.tr ht_109
      refine va_put (D := D) (ci := 4) (v := .long r_103) (ty := .long) (C := RX4) (T := TX4) (N := 8) hx hb hts hin4 tyX4 tyX4_ok nmX4 hown hK hP hD hS krd e_110 rfl 1 (by decide) (hts (.fieldLink RX4 90 "HoneyHouse$RuleReader" "nameKey" "J") (List.mem_of_getElem? (i := 5) rfl)) (fun _ h9 => h9) rfl (tyX4_ok 1 (by decide)) rfl rfl (Nat.le_of_ble_eq_true rfl) dX4_readName_67 (fun H locs hP hD hS => ?_)
      have hP : va_P D vwCl (ws_105.set krd (rd, .inr (4, [.ref tp, .long r_103, .int rb_5, .int rc_6, .int rv_7, .ref cd, .int (nI cc_3), .int re_8]))) H := hP
      have hD : va_D A (ws_105.set krd (rd, .inr (4, [.ref tp, .long r_103, .int rb_5, .int rc_6, .int rv_7, .ref cd, .int (nI cc_3), .int re_8]))) := hD
      have hm_119 : sm [4] ws_105 (ws_105.set krd (rd, .inr (4, [.ref tp, .long r_103, .int rb_5, .int rc_6, .int rv_7, .ref cd, .int (nI cc_3), .int re_8]))) := sm.flds e_110 (smF.c (smV.rf _) (smF.c (smV.l _ _) (smF.c (smV.rf _) (smF.c (smV.rf _) (smF.c (smV.rf _) (smF.c (smV.rf _) (smF.c (smV.rf _) (smF.c (smV.rf _) (rfl))))))))) (List.mem_singleton.mpr rfl)
      have e_120 : (ws_105.set krd (rd, .inr (4, [.ref tp, .long r_103, .int rb_5, .int rc_6, .int rv_7, .ref cd, .int (nI cc_3), .int re_8])))[krd]? = some (rd, .inr (4, [.ref tp, .long r_103, .int rb_5, .int rc_6, .int rv_7, .ref cd, .int (nI cc_3), .int re_8])) := wset_self e_110
      generalize ws_105.set krd (rd, .inr (4, [.ref tp, .long r_103, .int rb_5, .int rc_6, .int rv_7, .ref cd, .int (nI cc_3), .int re_8])) = ws_118 at hP hD hm_119 e_120
      have e_121 := hm_119.objK e_111 (by decide)
      obtain ⟨f_123, e_122⟩ := hm_119.arrI e_112
      obtain ⟨f_125, e_124⟩ := hm_119.arrI e_115
      have hsm := hsm.tr (hm_119.mono (by decide))
      refine lv_aload_n hx hb dX4_readName_70 rfl (lv_at hl 0 rfl) ?_
      refine va_get (D := D) (ci := 4) (v := .ref tp) (C := RX4) (T := TX4) (N := 8) hx hb hts hin4 hown hK hP krd e_120 rfl 0 (by decide) (hts (.fieldLink RX4 12 "HoneyHouse$RuleReader" "tape" "LHoneyHouse$Tape;") (List.mem_of_getElem? (i := 1) rfl)) (fun _ h9 => h9) rfl dX4_readName_71 ?_
      have hFc := free_all hD hS hA
      refine va_callv (va_runV (As := []) (rest := []) ⟨hx, hb, hml, hown, hts⟩ (a_advance l D ws_118 ty_106 tp ktp tl te_2 ya_9 (nI ts_1) bb k_22 c9_23 t_24 f_125 H.size (by omega) (by omega) e_121 e_124 u_117) (cwV 0 hts gX4_readName_X6_advance rfl rfl rfl (by decide +kernel) ⟨Nat.le_of_ble_eq_true rfl, Nat.le_of_ble_eq_true rfl⟩) ⟨fun a U g mk q => by obtain ⟨q0, q1, qP, qK, qD⟩ := q; exact ⟨q0, q1, qP, va_K.moved (u := U) (U := U.calling g mk a) (Vm.Alike.refl U.vm) qK, qD⟩, va_recv hK hP (ci := 6) (q0 := ktp) rfl e_121, fun U hU hW => ⟨rfl, by rw [hU], by rw [hU]; exact hP, va_K.moved hW.alike hK, hD.weaken (fun _ _ _ _ => trivial)⟩⟩ rfl rfl hl.1 rfl (lv_room (Nat.le_of_ble_eq_true rfl)) dX4_readName_74 ⟨Nat.le_of_ble_eq_true rfl, Nat.le_of_ble_eq_true rfl⟩) hS (fun q _ h => hFc q h) hFc (fun u t H1 locs ht hvm w_127 hB hz1 hk1 hS => ?_)
      obtain ⟨ws_128, ty_129, hm_130, ht_132, hP1, hK1, hD1, hx_131⟩ := hB
      rw [ht] at hP1
      have hK := va_K.moved hvm.symm hK1
      have hD := hD1.weaken (fun _ _ _ h => hFc _ h)
      generalize H1 = H at hP1 hS ⊢
      have hP := hP1
      have e_133 := hm_130.objK e_120 (by decide)
      obtain ⟨g_135, e_134, h_136⟩ := hm_130.obj e_121
      obtain ⟨z_137, z_138, z_139, z_140, rfl⟩ := smX6 h_136
      obtain ⟨f_142, e_141⟩ := hm_130.arrI e_122
      have u_143 := ht_132 _ _ u_114
      obtain ⟨f_145, e_144⟩ := hm_130.arrI e_124
      have u_146 := ht_132 _ _ u_117
      have hsm := hsm.tr (hm_130.mono (by decide))
      have htx := htx.tr ht_132
      obtain ⟨k_147, s_148, e_149, h_150, h_151, h_152, e_153⟩ := hx_131
      refine lv_iconst (v := 1) hx hb dX4_readName_77 (by decide) ?_
      exact W.zret (v := 1) hx hb hr rfl (fun t ht hW => ⟨⟨1, (), rfl, Or.inr rfl, ws_128, ty_129, hsm, htx, by rw [ht]; exact hP, va_K.moved hW.alike hK, hD, (⟨s_148, e_149, cc_3, r_103, rb_5, rc_6, rv_7, re_8, nI k_147, by omega, by omega, by omega, by omega, e_133, e_153, ⟨k_16, c9_17, t_18, f_142, e_141, u_143⟩, ⟨k_22, c9_23, t_24, f_145, e_144, u_146⟩⟩ : RS ws_128 ty_129 rd krd tp ktp cd bb tl)⟩, hS.F ht⟩) hS.2.2 dX4_readName_78
    refine lv_aload_n hx hb dX4_readName_43 rfl (lv_at hl 0 rfl) ?_
    refine lv_iconst (v := 1) hx hb dX4_readName_44 (by decide) ?_
    refine lv_aload_n hx hb dX4_readName_45 rfl (lv_at hl 0 rfl) ?_
    refine va_get (D := D) (ci := 4) (v := .ref tp) (C := RX4) (T := TX4) (N := 8) hx hb hts hin4 hown hK hP krd e_92 rfl 0 (by decide) (hts (.fieldLink RX4 12 "HoneyHouse$RuleReader" "tape" "LHoneyHouse$Tape;") (List.mem_of_getElem? (i := 1) rfl)) (fun _ h9 => h9) rfl dX4_readName_46 ?_
    refine va_get (D := D) (ci := 6) (v := .int (nI ts_1)) (C := RX6) (T := TX6) (N := 5) hx hb hts hin6 hown hK hP ktp e_93 rfl 2 (by decide) (hts (.fieldLink RX4 73 "HoneyHouse$Tape" "start" "I") (List.mem_of_getElem? (i := 4) rfl)) (fun _ h9 => h9) rfl dX4_readName_49 ?_
    refine lv_bipush (v := 12) hx hb dX4_readName_52 (by decide) ?_
    refine lv_iadd hx hb dX4_readName_54 ?_
    refine tp_i (y := nI (ts_1 + 12)) (nI_add ts_1 12) ?_
    have hFc := free_all hD hS hA
    refine va_calli (va_runV (As := [.int 1, .int (nI (ts_1 + 12))]) (rest := []) ⟨hx, hb, hml, hown, hts⟩ (r_failAt l D ws_87 ty_88 adK adV fo rd krd tp ktp cd bb tl 1 (nI (ts_1 + 12)) H.size (⟨ts_1, te_2, cc_3, ra_4, rb_5, rc_6, rv_7, re_8, ya_9, by omega, by omega, by omega, by omega, e_92, e_93, ⟨k_16, c9_17, t_18, f_95, e_94, u_96⟩, ⟨k_22, c9_23, t_24, f_98, e_97, u_99⟩⟩ : RS ws_87 ty_88 rd krd tp ktp cd bb tl)) (cwV 2 hts gX4_readName_X4_failAt rfl rfl rfl (by decide +kernel) ⟨Nat.le_of_ble_eq_true rfl, Nat.le_of_ble_eq_true rfl⟩) ⟨fun a U g mk q => by obtain ⟨q0, q1, qP, qK, qD, qS⟩ := q; exact ⟨q0, q1, qP, va_K.moved (u := U) (U := U.calling g mk a) (Vm.Alike.refl U.vm) qK, qD, SZ.same rfl rfl qS⟩, va_recv hK hP (ci := 4) (q0 := krd) rfl e_92, fun U hU hW => ⟨rfl, by rw [hU], by rw [hU]; exact hP, va_K.moved hW.alike hK, hD.weaken (fun _ _ _ _ => trivial), hsz9.go hS hW hU hFc⟩⟩ rfl rfl hl.1 rfl (lv_room (Nat.le_of_ble_eq_true rfl)) dX4_readName_55 ⟨Nat.le_of_ble_eq_true rfl, Nat.le_of_ble_eq_true rfl⟩) hS (fun q _ h => hFc q h) hFc (fun r_154 u t H1 locs ht hvm w_155 hB hz1 hk1 hS => ?_)
    obtain ⟨ws_156, ty_157, hm_158, ht_160, hP1, hK1, hD1, hx_159⟩ := hB
    rw [ht] at hP1
    have hK := va_K.moved hvm.symm hK1
    have hD := hD1.weaken (fun _ _ _ h => hFc _ h)
    generalize H1 = H at hP1 hS ⊢
    have hP := hP1
    obtain ⟨g_162, e_161, h_163⟩ := hm_158.obj e_92
    obtain ⟨z_164, z_165, z_166, z_167, z_168, z_169, rfl⟩ := smX4 h_163
    obtain ⟨g_171, e_170, h_172⟩ := hm_158.obj e_93
    obtain ⟨z_173, z_174, z_175, z_176, rfl⟩ := smX6 h_172
    obtain ⟨f_178, e_177⟩ := hm_158.arrI e_94
    have u_179 := ht_160 _ _ u_96
    obtain ⟨f_181, e_180⟩ := hm_158.arrI e_97
    have u_182 := ht_160 _ _ u_99
    have hsm := hsm.tr (hm_158.mono (by decide))
    have htx := htx.tr ht_160
    obtain ⟨ts_183, te_184, cc_185, ra_186, rb_187, rc_188, rv_189, re_190, ya_191, h1_192, h2_193, h3_194, h4_195, er_196, et_197, ⟨k_198, c9_199, t_200, f_201, e_202, u_203⟩, ⟨k_204, c9_205, t_206, f_207, e_208, u_209⟩⟩ := id hx_159
    subst w_155
    exact W.zret (v := 0) hx hb hr rfl (fun t ht hW => ⟨⟨0, (), rfl, Or.inl rfl, ws_156, ty_157, hsm, htx, by rw [ht]; exact hP, va_K.moved hW.alike hK, hD, (⟨ts_183, te_184, cc_185, ra_186, rb_187, rc_188, rv_189, re_190, ya_191, by omega, by omega, by omega, by omega, er_196, et_197, ⟨k_198, c9_199, t_200, f_201, e_202, u_203⟩, ⟨k_204, c9_205, t_206, f_207, e_208, u_209⟩⟩ : RS ws_156 ty_157 rd krd tp ktp cd bb tl)⟩, hS.F ht⟩) hS.2.2 dX4_readName_58
  refine lv_if_eq (tgt := 23) hx hb dX4_readName_15 (by decide) (fun c_210 => absurd c_210 (by decide)) (fun c_210 => ?_)
  refine lv_aload_n hx hb dX4_readName_18 rfl (lv_at hl 0 rfl) ?_
  have hFc := free_all hD hS hA
  refine va_calli (va_runV (As := []) (rest := []) ⟨hx, hb, hml, hown, hts⟩ (r_failHere l D ws_87 ty_88 adK adV fo rd krd tp ktp cd bb tl  H.size (⟨ts_1, te_2, cc_3, ra_4, rb_5, rc_6, rv_7, re_8, ya_9, by omega, by omega, by omega, by omega, e_92, e_93, ⟨k_16, c9_17, t_18, f_95, e_94, u_96⟩, ⟨k_22, c9_23, t_24, f_98, e_97, u_99⟩⟩ : RS ws_87 ty_88 rd krd tp ktp cd bb tl)) (cwV 0 hts gX4_readName_X4_failHere rfl rfl rfl (by decide +kernel) ⟨Nat.le_of_ble_eq_true rfl, Nat.le_of_ble_eq_true rfl⟩) ⟨fun a U g mk q => by obtain ⟨q0, q1, qP, qK, qD, qS⟩ := q; exact ⟨q0, q1, qP, va_K.moved (u := U) (U := U.calling g mk a) (Vm.Alike.refl U.vm) qK, qD, SZ.same rfl rfl qS⟩, va_recv hK hP (ci := 4) (q0 := krd) rfl e_92, fun U hU hW => ⟨rfl, by rw [hU], by rw [hU]; exact hP, va_K.moved hW.alike hK, hD.weaken (fun _ _ _ _ => trivial), hsz9.go hS hW hU hFc⟩⟩ rfl rfl hl.1 rfl (lv_room (Nat.le_of_ble_eq_true rfl)) dX4_readName_19 ⟨Nat.le_of_ble_eq_true rfl, Nat.le_of_ble_eq_true rfl⟩) hS (fun q _ h => hFc q h) hFc (fun r_211 u t H1 locs ht hvm w_212 hB hz1 hk1 hS => ?_)
  obtain ⟨ws_213, ty_214, hm_215, ht_217, hP1, hK1, hD1, hx_216⟩ := hB
  rw [ht] at hP1
  have hK := va_K.moved hvm.symm hK1
  have hD := hD1.weaken (fun _ _ _ h => hFc _ h)
  generalize H1 = H at hP1 hS ⊢
  have hP := hP1
  obtain ⟨g_219, e_218, h_220⟩ := hm_215.obj e_92
  obtain ⟨z_221, z_222, z_223, z_224, z_225, z_226, rfl⟩ := smX4 h_220
  obtain ⟨g_228, e_227, h_229⟩ := hm_215.obj e_93
  obtain ⟨z_230, z_231, z_232, z_233, rfl⟩ := smX6 h_229
  obtain ⟨f_235, e_234⟩ := hm_215.arrI e_94
  have u_236 := ht_217 _ _ u_96
  obtain ⟨f_238, e_237⟩ := hm_215.arrI e_97
  have u_239 := ht_217 _ _ u_99
  have hsm := hsm.tr (hm_215.mono (by decide))
  have htx := htx.tr ht_217
  obtain ⟨ts_240, te_241, cc_242, ra_243, rb_244, rc_245, rv_246, re_247, ya_248, h1_249, h2_250, h3_251, h4_252, er_253, et_254, ⟨k_255, c9_256, t_257, f_258, e_259, u_260⟩, ⟨k_261, c9_262, t_263, f_264, e_265, u_266⟩⟩ := id hx_216
  subst w_212
  exact W.zret (v := 0) hx hb hr rfl (fun t ht hW => ⟨⟨0, (), rfl, Or.inl rfl, ws_213, ty_214, hsm, htx, by rw [ht]; exact hP, va_K.moved hW.alike hK, hD, (⟨ts_240, te_241, cc_242, ra_243, rb_244, rc_245, rv_246, re_247, ya_248, by omega, by omega, by omega, by omega, er_253, et_254, ⟨k_255, c9_256, t_257, f_258, e_259, u_260⟩, ⟨k_261, c9_262, t_263, f_264, e_265, u_266⟩⟩ : RS ws_213 ty_214 rd krd tp ktp cd bb tl)⟩, hS.F ht⟩) hS.2.2 dX4_readName_22
set_option maxHeartbeats 4000000 in
set_option maxRecDepth 100000 in
theorem r_addCode (l : Launch) (D : va_G) (ws : va_W) (tys : List (ClassId × FieldType)) (adK adV : Nat → Nat) (fo : Option Nat) (rd krd tp ktp cd bb tl : Nat) (a1 : Int32) (sz : Nat) (R0 : RS ws tys rd krd tp ktp cd bb tl)  : Met l yX4_addCode wsX4_addCode ({ frames := 0, cells := 0, slots := 0, locals := 0 }) (va_Pc [.ref rd, .int a1] (fun U => U.heap.size = sz ∧ va_P D vwCl ws U.heap ∧ va_K D vwCl tys U ∧ va_D (fun _ => True) ws ∧ SZ adK adV fo (va_A ws sz) U U.heap)) (va_Qv (fun _ : Unit => True) (fun (_ : Unit) (t : State) => ∃ (ws' : va_W) (tys' : List (ClassId × FieldType)), sm [4, 6] ws ws' ∧ tyx tys tys' ∧ va_P D vwCl ws' t.heap ∧ va_K D vwCl tys' t ∧ va_D (va_A ws sz) ws' ∧ RS ws' tys' rd krd tp ktp cd bb tl) (va_A ws sz)) 0 0 (va_A ws sz) := by
  refine Met.ofW (cc := cX4_addCode) (maxL := 2) (ret := none) (by decide) rfl ?_
  intro p e s m args below meth c s₁ B hml hv
  obtain ⟨rfl, hsz, hP, hK, hD0, hsz9⟩ := hv
  have hx := B.exec
  have hb := B.bytes
  have hr := B.returns
  have hts := atoms_spec (ws := wsX4_addCode) B.pre
  have hown : s.vm.findClass RX4 = some m.cls := findClass_of_methodNamed B.named
  have hlocks := B.notSynchronized
  subst hsz
  have hD := hD0.self (sz := s.heap.size)
  generalize hAe : va_A ws s.heap.size = A at hD hsz9 ⊢
  have hA : ∀ q : Nat, s.heap.size ≤ q → A q := fun q h => by rw [← hAe]; exact Or.inr h
  have hS : va_S A s.heap s.heap [] := va_S.rf
  have hsm : sm [4, 6] ws ws := sm.rf ws
  have htx : tyx tys tys := tyx.rf tys
  have hin4 : ∀ w ∈ u_ws RX4 TX4 8, w ∈ wsX4_addCode := (fun _ h9 => List.mem_cons_of_mem _ ((List.mem_append_right _ h9)))
  have hl := lv_entry ([.ref rd, .int a1]) (n := 2) (Nat.le_of_ble_eq_true rfl)
  rw [lg_entry_eq]
  generalize (lg_sl ([.ref rd, .int a1]) ++ List.replicate (2 - (lg_sl ([.ref rd, .int a1])).length) Slot.unset).toArray = ls at hl ⊢
  have hl : lv_has ls 2 [(0, .ref rd), (1, .int a1)] := hl
  obtain ⟨ts_1, te_2, cc_3, ra_4, rb_5, rc_6, rv_7, re_8, ya_9, h1_10, h2_11, h3_12, h4_13, er_14, et_15, ⟨k_16, c9_17, t_18, f_19, e_20, u_21⟩, ⟨k_22, c9_23, t_24, f_25, e_26, u_27⟩⟩ := id R0
  refine lv_aload_n hx hb dX4_addCode_0 rfl (lv_at hl 0 rfl) ?_
  refine va_get (D := D) (ci := 4) (v := .int (nI cc_3)) (C := RX4) (T := TX4) (N := 8) hx hb hts hin4 hown hK hP krd er_14 rfl 6 (by decide) (hts (.fieldLink RX4 29 "HoneyHouse$RuleReader" "codeCount" "I") (List.mem_of_getElem? (i := 1) rfl)) (fun _ h9 => h9) rfl dX4_addCode_1 ?_
  refine lv_if_lt (tgt := 39) hx hb dX4_addCode_4 (by decide) (fun c_28 => absurd c_28 (nI_pos (n := cc_3) (by omega))) (fun c_28 => ?_)
  refine lv_aload_n hx hb dX4_addCode_7 rfl (lv_at hl 0 rfl) ?_
  refine va_get (D := D) (ci := 4) (v := .int (nI cc_3)) (C := RX4) (T := TX4) (N := 8) hx hb hts hin4 hown hK hP krd er_14 rfl 6 (by decide) (hts (.fieldLink RX4 29 "HoneyHouse$RuleReader" "codeCount" "I") (List.mem_of_getElem? (i := 1) rfl)) (fun _ h9 => h9) rfl dX4_addCode_8 ?_
  refine lv_aload_n hx hb dX4_addCode_11 rfl (lv_at hl 0 rfl) ?_
  refine va_get (D := D) (ci := 4) (v := .ref cd) (C := RX4) (T := TX4) (N := 8) hx hb hts hin4 hown hK hP krd er_14 rfl 5 (by decide) (hts (.fieldLink RX4 22 "HoneyHouse$RuleReader" "codes" "[I") (List.mem_of_getElem? (i := 2) rfl)) (fun _ h9 => h9) rfl dX4_addCode_12 ?_
  refine va_alen (v := 200) hx hb hK hP k_16 t_18 e_20 u_21 rfl dX4_addCode_15 ?_
  refine lv_icmp_ge (tgt := 39) hx hb dX4_addCode_16 (by decide) (fun c_29 => ?_) (fun c_29 => ?_)
  · have d_30 := n_le (a := 200) (b := cc_3) (by omega) (by omega) c_29
    exact W.vret hx hb hr (fun t ht hW => ⟨⟨(), rfl, trivial, ws, tys, hsm, htx, by rw [ht]; exact hP, va_K.moved hW.alike hK, hD, (⟨ts_1, te_2, cc_3, ra_4, rb_5, rc_6, rv_7, re_8, ya_9, by omega, by omega, by omega, by omega, er_14, et_15, ⟨k_16, c9_17, t_18, f_19, e_20, u_21⟩, ⟨k_22, c9_23, t_24, f_25, e_26, u_27⟩⟩ : RS ws tys rd krd tp ktp cd bb tl)⟩, hS.F ht⟩) hS.2.2 dX4_addCode_39
  have d_31 := n_nle (a := 200) (b := cc_3) (by omega) (by omega) c_29
  refine lv_aload_n hx hb dX4_addCode_19 rfl (lv_at hl 0 rfl) ?_
  refine va_get (D := D) (ci := 4) (v := .ref cd) (C := RX4) (T := TX4) (N := 8) hx hb hts hin4 hown hK hP krd er_14 rfl 5 (by decide) (hts (.fieldLink RX4 22 "HoneyHouse$RuleReader" "codes" "[I") (List.mem_of_getElem? (i := 2) rfl)) (fun _ h9 => h9) rfl dX4_addCode_20 ?_
  refine lv_aload_n hx hb dX4_addCode_23 rfl (lv_at hl 0 rfl) ?_
  refine va_get (D := D) (ci := 4) (v := .int (nI cc_3)) (C := RX4) (T := TX4) (N := 8) hx hb hts hin4 hown hK hP krd er_14 rfl 6 (by decide) (hts (.fieldLink RX4 29 "HoneyHouse$RuleReader" "codeCount" "I") (List.mem_of_getElem? (i := 1) rfl)) (fun _ h9 => h9) rfl dX4_addCode_24 ?_
  refine lv_iload_n hx hb dX4_addCode_27 rfl (lv_at hl 1 rfl) ?_
  refine va_iast (f := f_19) (n := 200) hx hb hK hP hD hS k_16 t_18 e_20 u_21 (vp_in_nI (n := cc_3) (by omega) (by omega)) dX4_addCode_28 (fun H locs hP hD hS => ?_)
  have hm_33 : sm [] ws (ws.set k_16 (cd, .inl (c9_17, 200, .inl (upd f_19 (nI cc_3).toNatClampNeg a1)))) := sm.ints e_20
  have e_34 : (ws.set k_16 (cd, .inl (c9_17, 200, .inl (upd f_19 (nI cc_3).toNatClampNeg a1))))[k_16]? = some (cd, .inl (c9_17, 200, .inl (upd f_19 (nI cc_3).toNatClampNeg a1))) := wset_self e_20
  generalize ws.set k_16 (cd, .inl (c9_17, 200, .inl (upd f_19 (nI cc_3).toNatClampNeg a1))) = ws_32 at hP hD hm_33 e_34
  have e_35 := hm_33.objK er_14 (by decide)
  have e_36 := hm_33.objK et_15 (by decide)
  obtain ⟨f_38, e_37⟩ := hm_33.arrI e_26
  have hsm := hsm.tr (hm_33.mono (fun _ h9 => absurd h9 List.not_mem_nil))
  generalize upd f_19 (nI cc_3).toNatClampNeg a1 = f_39 at e_34
  refine lv_aload_n hx hb dX4_addCode_29 rfl (lv_at hl 0 rfl) ?_
  refine lv_dup hx hb dX4_addCode_30 rfl ?_
  refine va_get (D := D) (ci := 4) (v := .int (nI cc_3)) (C := RX4) (T := TX4) (N := 8) hx hb hts hin4 hown hK hP krd e_35 rfl 6 (by decide) (hts (.fieldLink RX4 29 "HoneyHouse$RuleReader" "codeCount" "I") (List.mem_of_getElem? (i := 1) rfl)) (fun _ h9 => h9) rfl dX4_addCode_31 ?_
  refine lv_iconst (v := 1) hx hb dX4_addCode_34 (by decide) ?_
  refine lv_iadd hx hb dX4_addCode_35 ?_
  refine tp_i (y := nI (cc_3 + 1)) (nI_add cc_3 1) ?_
  refine va_put (D := D) (ci := 4) (v := .int (nI (cc_3 + 1))) (ty := .int) (C := RX4) (T := TX4) (N := 8) hx hb hts hin4 tyX4 tyX4_ok nmX4 hown hK hP hD hS krd e_35 rfl 6 (by decide) (hts (.fieldLink RX4 29 "HoneyHouse$RuleReader" "codeCount" "I") (List.mem_of_getElem? (i := 1) rfl)) (fun _ h9 => h9) rfl (tyX4_ok 6 (by decide)) rfl rfl (Nat.le_of_ble_eq_true rfl) dX4_addCode_36 (fun H locs hP hD hS => ?_)
  have hP : va_P D vwCl (ws_32.set krd (rd, .inr (4, [.ref tp, .long ra_4, .int rb_5, .int rc_6, .int rv_7, .ref cd, .int (nI (cc_3 + 1)), .int re_8]))) H := hP
  have hD : va_D A (ws_32.set krd (rd, .inr (4, [.ref tp, .long ra_4, .int rb_5, .int rc_6, .int rv_7, .ref cd, .int (nI (cc_3 + 1)), .int re_8]))) := hD
  have hm_41 : sm [4] ws_32 (ws_32.set krd (rd, .inr (4, [.ref tp, .long ra_4, .int rb_5, .int rc_6, .int rv_7, .ref cd, .int (nI (cc_3 + 1)), .int re_8]))) := sm.flds e_35 (smF.c (smV.rf _) (smF.c (smV.rf _) (smF.c (smV.rf _) (smF.c (smV.rf _) (smF.c (smV.rf _) (smF.c (smV.rf _) (smF.c (smV.i _ _) (smF.c (smV.rf _) (rfl))))))))) (List.mem_singleton.mpr rfl)
  have e_42 : (ws_32.set krd (rd, .inr (4, [.ref tp, .long ra_4, .int rb_5, .int rc_6, .int rv_7, .ref cd, .int (nI (cc_3 + 1)), .int re_8])))[krd]? = some (rd, .inr (4, [.ref tp, .long ra_4, .int rb_5, .int rc_6, .int rv_7, .ref cd, .int (nI (cc_3 + 1)), .int re_8])) := wset_self e_35
  generalize ws_32.set krd (rd, .inr (4, [.ref tp, .long ra_4, .int rb_5, .int rc_6, .int rv_7, .ref cd, .int (nI (cc_3 + 1)), .int re_8])) = ws_40 at hP hD hm_41 e_42
  have e_43 := hm_41.objK e_36 (by decide)
  obtain ⟨f_45, e_44⟩ := hm_41.arrI e_34
  obtain ⟨f_47, e_46⟩ := hm_41.arrI e_37
  have hsm := hsm.tr (hm_41.mono (by decide))
  exact W.vret hx hb hr (fun t ht hW => ⟨⟨(), rfl, trivial, ws_40, tys, hsm, htx, by rw [ht]; exact hP, va_K.moved hW.alike hK, hD, (⟨ts_1, te_2, cc_3 + 1, ra_4, rb_5, rc_6, rv_7, re_8, ya_9, by omega, by omega, by omega, by omega, e_42, e_43, ⟨k_16, c9_17, t_18, f_45, e_44, u_21⟩, ⟨k_22, c9_23, t_24, f_47, e_46, u_27⟩⟩ : RS ws_40 tys rd krd tp ktp cd bb tl)⟩, hS.F ht⟩) hS.2.2 dX4_addCode_39
set_option maxHeartbeats 4000000 in
set_option maxRecDepth 100000 in
theorem s_testCode (l : Launch) (a1 a2 a3 : Int32) : Met l yX4_testCode wsX4_testCode ({ frames := 0, cells := 0, slots := 0, locals := 0 }) (va_Pc [.int a1, .int a2, .int a3] (fun _ => True)) (vp_Si (fun r => True)) 0 0 (fun _ => False) := by
  refine Met.ofW (cc := cX4_testCode) (maxL := 3) (ret := (some .int)) (by decide) rfl ?_
  intro p e s m args below meth c s₁ B hml hv
  obtain ⟨rfl, -⟩ := hv
  have hx := B.exec
  have hb := B.bytes
  have hr := B.returns
  have hts := atoms_spec (ws := wsX4_testCode) B.pre
  have hown : s.vm.findClass RX4 = some m.cls := findClass_of_methodNamed B.named
  have hlocks := B.notSynchronized
  have hl := lv_entry ([.int a1, .int a2, .int a3]) (n := 3) (Nat.le_of_ble_eq_true rfl)
  rw [lg_entry_eq]
  generalize (lg_sl ([.int a1, .int a2, .int a3]) ++ List.replicate (3 - (lg_sl ([.int a1, .int a2, .int a3])).length) Slot.unset).toArray = ls at hl ⊢
  have hl : lv_has ls 3 [(0, .int a1), (1, .int a2), (2, .int a3)] := hl
  refine lv_iload_n hx hb dX4_testCode_0 rfl (lv_at hl 0 rfl) ?_
  refine lv_iconst (v := 2) hx hb dX4_testCode_1 (by decide) ?_
  refine lv_imul hx hb dX4_testCode_2 ?_
  refine lv_iload_n hx hb dX4_testCode_3 rfl (lv_at hl 1 rfl) ?_
  refine lv_if_eq (tgt := 11) hx hb dX4_testCode_4 (by decide) (fun c_1 => ?_) (fun c_1 => ?_)
  · refine lv_iconst (v := 0) hx hb dX4_testCode_11 (by decide) ?_
    refine lv_iadd hx hb dX4_testCode_12 ?_
    refine lv_bipush (v := 10) hx hb dX4_testCode_13 (by decide) ?_
    refine lv_ishl hx hb dX4_testCode_15 ?_
    refine lv_iload_n hx hb dX4_testCode_16 rfl (lv_at hl 2 rfl) ?_
    refine lv_iadd hx hb dX4_testCode_17 ?_
    exact W.iret (v := (((a1 * 2) + 0) <<< (10 &&& 31)) + a3) hx hb hr (fun t ht hW => ⟨(((a1 * 2) + 0) <<< (10 &&& 31)) + a3, rfl, trivial, ht⟩) (fun _ h9 => by cases h9) dX4_testCode_18
  refine lv_iconst (v := 1) hx hb dX4_testCode_7 (by decide) ?_
  refine lv_goto (tgt := 12) hx hb dX4_testCode_8 (by decide) ?_
  refine lv_iadd hx hb dX4_testCode_12 ?_
  refine lv_bipush (v := 10) hx hb dX4_testCode_13 (by decide) ?_
  refine lv_ishl hx hb dX4_testCode_15 ?_
  refine lv_iload_n hx hb dX4_testCode_16 rfl (lv_at hl 2 rfl) ?_
  refine lv_iadd hx hb dX4_testCode_17 ?_
  exact W.iret (v := (((a1 * 2) + 1) <<< (10 &&& 31)) + a3) hx hb hr (fun t ht hW => ⟨(((a1 * 2) + 1) <<< (10 &&& 31)) + a3, rfl, trivial, ht⟩) (fun _ h9 => by cases h9) dX4_testCode_18
set_option maxHeartbeats 4000000 in
set_option maxRecDepth 100000 in
theorem r_readTest (l : Launch) (D : va_G) (ws : va_W) (tys : List (ClassId × FieldType)) (adK adV : Nat → Nat) (fo : Option Nat) (rd krd tp ktp cd bb tl : Nat)  (sz : Nat) (R0 : RS ws tys rd krd tp ktp cd bb tl)  : Met l yX4_readTest wsX4_readTest ({ frames := 6, cells := 0, slots := 0, locals := 127 }) (va_Pc [.ref rd] (fun U => U.heap.size = sz ∧ va_P D vwCl ws U.heap ∧ va_K D vwCl tys U ∧ va_D (fun _ => True) ws ∧ SZ adK adV fo (va_A ws sz) U U.heap)) (va_Qi (fun (r : Int32) (_ : Unit) => r = 0 ∨ r = 1) (fun (_ : Unit) (t : State) => ∃ (ws' : va_W) (tys' : List (ClassId × FieldType)), sm [4, 6] ws ws' ∧ tyx tys tys' ∧ va_P D vwCl ws' t.heap ∧ va_K D vwCl tys' t ∧ va_D (va_A ws sz) ws' ∧ RS ws' tys' rd krd tp ktp cd bb tl) (va_A ws sz)) 0 0 (va_A ws sz) := by
  refine Met.ofW (cc := cX4_readTest) (maxL := 3) (ret := (some .boolean)) (by decide) rfl ?_
  intro p e s m args below meth c s₁ B hml hv
  obtain ⟨rfl, hsz, hP, hK, hD0, hsz9⟩ := hv
  have hx := B.exec
  have hb := B.bytes
  have hr := B.returns
  have hts := atoms_spec (ws := wsX4_readTest) B.pre
  have hown : s.vm.findClass RX4 = some m.cls := findClass_of_methodNamed B.named
  have hlocks := B.notSynchronized
  subst hsz
  have hD := hD0.self (sz := s.heap.size)
  generalize hAe : va_A ws s.heap.size = A at hD hsz9 ⊢
  have hA : ∀ q : Nat, s.heap.size ≤ q → A q := fun q h => by rw [← hAe]; exact Or.inr h
  have hS : va_S A s.heap s.heap [] := va_S.rf
  have hsm : sm [4, 6] ws ws := sm.rf ws
  have htx : tyx tys tys := tyx.rf tys
  have hin4 : ∀ w ∈ u_ws RX4 TX4 8, w ∈ wsX4_readTest := (fun _ h9 => List.mem_cons_of_mem _ (List.mem_append_left _ ((List.mem_append_right _ h9))))
  have hl := lv_entry ([.ref rd]) (n := 3) (Nat.le_of_ble_eq_true rfl)
  rw [lg_entry_eq]
  generalize (lg_sl ([.ref rd]) ++ List.replicate (3 - (lg_sl ([.ref rd])).length) Slot.unset).toArray = ls at hl ⊢
  have hl : lv_has ls 3 [(0, .ref rd)] := hl
  obtain ⟨ts_1, te_2, cc_3, ra_4, rb_5, rc_6, rv_7, re_8, ya_9, h1_10, h2_11, h3_12, h4_13, er_14, et_15, ⟨k_16, c9_17, t_18, f_19, e_20, u_21⟩, ⟨k_22, c9_23, t_24, f_25, e_26, u_27⟩⟩ := id R0
  refine lv_aload_n hx hb dX4_readTest_0 rfl (lv_at hl 0 rfl) ?_
  have hFc := free_all hD hS hA
  refine va_calli (va_runV (As := []) (rest := []) ⟨hx, hb, hml, hown, hts⟩ (r_measureNamed l D ws tys adK adV fo rd krd tp ktp cd bb tl  s.heap.size (⟨ts_1, te_2, cc_3, ra_4, rb_5, rc_6, rv_7, re_8, ya_9, by omega, by omega, by omega, by omega, er_14, et_15, ⟨k_16, c9_17, t_18, f_19, e_20, u_21⟩, ⟨k_22, c9_23, t_24, f_25, e_26, u_27⟩⟩ : RS ws tys rd krd tp ktp cd bb tl)) (cwV 0 hts gX4_readTest_X4_measureNamed rfl rfl rfl (by decide +kernel) ⟨Nat.le_of_ble_eq_true rfl, Nat.le_of_ble_eq_true rfl⟩) ⟨fun a U g mk q => by obtain ⟨q0, q1, qP, qK, qD, qS⟩ := q; exact ⟨q0, q1, qP, va_K.moved (u := U) (U := U.calling g mk a) (Vm.Alike.refl U.vm) qK, qD, SZ.same rfl rfl qS⟩, va_recv hK hP (ci := 4) (q0 := krd) rfl er_14, fun U hU hW => ⟨rfl, by rw [hU], by rw [hU]; exact hP, va_K.moved hW.alike hK, hD.weaken (fun _ _ _ _ => trivial), hsz9.go hS hW hU hFc⟩⟩ rfl rfl hl.1 rfl (lv_room (Nat.le_of_ble_eq_true rfl)) dX4_readTest_1 ⟨Nat.le_of_ble_eq_true rfl, Nat.le_of_ble_eq_true rfl⟩) hS (fun q _ h => hFc q h) hFc (fun r_28 u t H1 locs ht hvm w_29 hB hz1 hk1 hS => ?_)
  obtain ⟨ws_30, ty_31, hm_32, ht_34, hP1, hK1, hD1, hx_33⟩ := hB
  rw [ht] at hP1
  have hK := va_K.moved hvm.symm hK1
  have hD := hD1.weaken (fun _ _ _ h => hFc _ h)
  generalize H1 = H at hP1 hS ⊢
  have hP := hP1
  have e_35 := hm_32.objK er_14 (by decide)
  have e_36 := hm_32.objK et_15 (by decide)
  obtain ⟨f_38, e_37⟩ := hm_32.arrI e_20
  have u_39 := ht_34 _ _ u_21
  obtain ⟨f_41, e_40⟩ := hm_32.arrI e_26
  have u_42 := ht_34 _ _ u_27
  have hsm := hsm.tr (hm_32.mono (by decide))
  have htx := htx.tr ht_34
  refine lv_istore_n (lv' := [(1, .int r_28), (0, .ref rd)]) hx hb dX4_readTest_4 rfl hl (by decide) rfl (fun ls hl => ?_)
  refine lv_iload_n hx hb dX4_readTest_5 rfl (lv_at hl 0 rfl) ?_
  refine lv_iconst (v := (-1)) hx hb dX4_readTest_6 (by decide) ?_
  refine lv_icmp_ne (tgt := 15) hx hb dX4_readTest_7 (by decide) (fun c_43 => ?_) (fun c_43 => ?_)
  · refine lv_aload_n hx hb dX4_readTest_15 rfl (lv_at hl 1 rfl) ?_
    refine va_get (D := D) (ci := 4) (v := .ref tp) (C := RX4) (T := TX4) (N := 8) hx hb hts hin4 hown hK hP krd e_35 rfl 0 (by decide) (hts (.fieldLink RX4 12 "HoneyHouse$RuleReader" "tape" "LHoneyHouse$Tape;") (List.mem_of_getElem? (i := 1) rfl)) (fun _ h9 => h9) rfl dX4_readTest_16 ?_
    have hFc := free_all hD hS hA
    refine va_callv (va_runV (As := []) (rest := []) ⟨hx, hb, hml, hown, hts⟩ (a_advance l D ws_30 ty_31 tp ktp tl te_2 ya_9 (nI ts_1) bb k_22 c9_23 t_24 f_41 H.size (by omega) (by omega) e_36 e_40 u_42) (cwV 0 hts gX4_readTest_X6_advance rfl rfl rfl (by decide +kernel) ⟨Nat.le_of_ble_eq_true rfl, Nat.le_of_ble_eq_true rfl⟩) ⟨fun a U g mk q => by obtain ⟨q0, q1, qP, qK, qD⟩ := q; exact ⟨q0, q1, qP, va_K.moved (u := U) (U := U.calling g mk a) (Vm.Alike.refl U.vm) qK, qD⟩, va_recv hK hP (ci := 6) (q0 := ktp) rfl e_36, fun U hU hW => ⟨rfl, by rw [hU], by rw [hU]; exact hP, va_K.moved hW.alike hK, hD.weaken (fun _ _ _ _ => trivial)⟩⟩ rfl rfl hl.1 rfl (lv_room (Nat.le_of_ble_eq_true rfl)) dX4_readTest_19 ⟨Nat.le_of_ble_eq_true rfl, Nat.le_of_ble_eq_true rfl⟩) hS (fun q _ h => hFc q h) hFc (fun u t H1 locs ht hvm w_45 hB hz1 hk1 hS => ?_)
    obtain ⟨ws_46, ty_47, hm_48, ht_50, hP1, hK1, hD1, hx_49⟩ := hB
    rw [ht] at hP1
    have hK := va_K.moved hvm.symm hK1
    have hD := hD1.weaken (fun _ _ _ h => hFc _ h)
    generalize H1 = H at hP1 hS ⊢
    have hP := hP1
    have e_51 := hm_48.objK e_35 (by decide)
    obtain ⟨g_53, e_52, h_54⟩ := hm_48.obj e_36
    obtain ⟨z_55, z_56, z_57, z_58, rfl⟩ := smX6 h_54
    obtain ⟨f_60, e_59⟩ := hm_48.arrI e_37
    have u_61 := ht_50 _ _ u_39
    obtain ⟨f_63, e_62⟩ := hm_48.arrI e_40
    have u_64 := ht_50 _ _ u_42
    have hsm := hsm.tr (hm_48.mono (by decide))
    have htx := htx.tr ht_50
    obtain ⟨k_65, s_66, e_67, h_68, h_69, h_70, e_71⟩ := hx_49
    refine lv_iload_n hx hb dX4_readTest_22 rfl (lv_at hl 0 rfl) ?_
    refine lv_bipush (v := 10) hx hb dX4_readTest_23 (by decide) ?_
    refine lv_icmp_eq (tgt := 34) hx hb dX4_readTest_25 (by decide) (fun c_72 => ?_) (fun c_72 => ?_)
    · refine lv_aload_n hx hb dX4_readTest_34 rfl (lv_at hl 1 rfl) ?_
      refine lv_iload_n hx hb dX4_readTest_35 rfl (lv_at hl 0 rfl) ?_
      refine lv_bipush (v := 30) hx hb dX4_readTest_36 (by decide) ?_
      refine lv_icmp_ne (tgt := 45) hx hb dX4_readTest_38 (by decide) (fun c_73 => ?_) (fun c_73 => ?_)
      · refine lv_iconst (v := 4) hx hb dX4_readTest_45 (by decide) ?_
        have hFc := free_all hD hS hA
        refine va_calli (va_runV (As := [.int 4]) (rest := []) ⟨hx, hb, hml, hown, hts⟩ (r_readNumber l D ws_46 ty_47 adK adV fo rd krd tp ktp cd bb tl 4 H.size (⟨s_66, e_67, cc_3, ra_4, rb_5, rc_6, rv_7, re_8, nI k_65, by omega, by omega, by omega, by omega, e_51, e_71, ⟨k_16, c9_17, t_18, f_60, e_59, u_61⟩, ⟨k_22, c9_23, t_24, f_63, e_62, u_64⟩⟩ : RS ws_46 ty_47 rd krd tp ktp cd bb tl)) (cwV 1 hts gX4_readTest_X4_readNumber rfl rfl rfl (by decide +kernel) ⟨Nat.le_of_ble_eq_true rfl, Nat.le_of_ble_eq_true rfl⟩) ⟨fun a U g mk q => by obtain ⟨q0, q1, qP, qK, qD, qS⟩ := q; exact ⟨q0, q1, qP, va_K.moved (u := U) (U := U.calling g mk a) (Vm.Alike.refl U.vm) qK, qD, SZ.same rfl rfl qS⟩, va_recv hK hP (ci := 4) (q0 := krd) rfl e_51, fun U hU hW => ⟨rfl, by rw [hU], by rw [hU]; exact hP, va_K.moved hW.alike hK, hD.weaken (fun _ _ _ _ => trivial), hsz9.go hS hW hU hFc⟩⟩ rfl rfl hl.1 rfl (lv_room (Nat.le_of_ble_eq_true rfl)) dX4_readTest_46 ⟨Nat.le_of_ble_eq_true rfl, Nat.le_of_ble_eq_true rfl⟩) hS (fun q _ h => hFc q h) hFc (fun r_74 u t H1 locs ht hvm w_75 hB hz1 hk1 hS => ?_)
        obtain ⟨ws_76, ty_77, hm_78, ht_80, hP1, hK1, hD1, hx_79⟩ := hB
        rw [ht] at hP1
        have hK := va_K.moved hvm.symm hK1
        have hD := hD1.weaken (fun _ _ _ h => hFc _ h)
        generalize H1 = H at hP1 hS ⊢
        have hP := hP1
        obtain ⟨g_82, e_81, h_83⟩ := hm_78.obj e_51
        obtain ⟨z_84, z_85, z_86, z_87, z_88, z_89, rfl⟩ := smX4 h_83
        obtain ⟨g_91, e_90, h_92⟩ := hm_78.obj e_71
        obtain ⟨z_93, z_94, z_95, z_96, rfl⟩ := smX6 h_92
        obtain ⟨f_98, e_97⟩ := hm_78.arrI e_59
        have u_99 := ht_80 _ _ u_61
        obtain ⟨f_101, e_100⟩ := hm_78.arrI e_62
        have u_102 := ht_80 _ _ u_64
        have hsm := hsm.tr (hm_78.mono (by decide))
        have htx := htx.tr ht_80
        obtain ⟨ts_103, te_104, cc_105, ra_106, rb_107, rc_108, rv_109, re_110, ya_111, h1_112, h2_113, h3_114, h4_115, er_116, et_117, ⟨k_118, c9_119, t_120, f_121, e_122, u_123⟩, ⟨k_124, c9_125, t_126, f_127, e_128, u_129⟩⟩ := id hx_79
        rcases w_75 with rfl | rfl
        · refine lv_if_ne (tgt := 54) hx hb dX4_readTest_49 (by decide) (fun c_130 => absurd (by decide) c_130) (fun c_130 => ?_)
          refine lv_iconst (v := 0) hx hb dX4_readTest_52 (by decide) ?_
          exact W.zret (v := 0) hx hb hr rfl (fun t ht hW => ⟨⟨0, (), rfl, Or.inl rfl, ws_76, ty_77, hsm, htx, by rw [ht]; exact hP, va_K.moved hW.alike hK, hD, (⟨ts_103, te_104, cc_105, ra_106, rb_107, rc_108, rv_109, re_110, ya_111, by omega, by omega, by omega, by omega, er_116, et_117, ⟨k_118, c9_119, t_120, f_121, e_122, u_123⟩, ⟨k_124, c9_125, t_126, f_127, e_128, u_129⟩⟩ : RS ws_76 ty_77 rd krd tp ktp cd bb tl)⟩, hS.F ht⟩) hS.2.2 dX4_readTest_53
        refine lv_if_ne (tgt := 54) hx hb dX4_readTest_49 (by decide) (fun c_131 => ?_) (fun c_131 => absurd c_131 (by decide))
        refine lv_iload_n hx hb dX4_readTest_54 rfl (lv_at hl 0 rfl) ?_
        refine lv_aload_n hx hb dX4_readTest_55 rfl (lv_at hl 1 rfl) ?_
        refine va_get (D := D) (ci := 4) (v := .int re_110) (C := RX4) (T := TX4) (N := 8) hx hb hts hin4 hown hK hP krd er_116 rfl 7 (by decide) (hts (.fieldLink RX4 56 "HoneyHouse$RuleReader" "value" "I") (List.mem_of_getElem? (i := 2) rfl)) (fun _ h9 => h9) rfl dX4_readTest_56 ?_
        refine lv_iadd hx hb dX4_readTest_59 ?_
        refine lv_topi (fun z_132 _ => ?_)
        refine lv_istore_n (lv' := [(1, .int z_132), (0, .ref rd)]) hx hb dX4_readTest_60 rfl hl (by decide) rfl (fun ls hl => ?_)
        refine lv_aload_n hx hb dX4_readTest_61 rfl (lv_at hl 1 rfl) ?_
        refine va_get (D := D) (ci := 4) (v := .ref tp) (C := RX4) (T := TX4) (N := 8) hx hb hts hin4 hown hK hP krd er_116 rfl 0 (by decide) (hts (.fieldLink RX4 12 "HoneyHouse$RuleReader" "tape" "LHoneyHouse$Tape;") (List.mem_of_getElem? (i := 1) rfl)) (fun _ h9 => h9) rfl dX4_readTest_62 ?_
        refine va_ldcS hx hb hown hsz9.2.2.2.2.2.2.2.2.1 dX4_readTest_65 ?_
        have hFc := free_all hD hS hA
        refine va_calli (va_runV (As := [.ref (adK 5)]) (rest := []) ⟨hx, hb, hml, hown, hts⟩ (a_isWord l D ws_76 ty_77 adK adV fo 5 tp ktp tl ya_111 (nI ts_103) (nI te_104) bb k_124 c9_125 t_126 f_127 H.size (by decide) et_117 e_128 u_129) (cwV 1 hts gX4_readTest_X6_isWord rfl rfl rfl (by decide +kernel) ⟨Nat.le_of_ble_eq_true rfl, Nat.le_of_ble_eq_true rfl⟩) ⟨fun a U g mk q => by obtain ⟨q0, q1, qP, qK, qD, qS⟩ := q; exact ⟨q0, q1, qP, va_K.moved (u := U) (U := U.calling g mk a) (Vm.Alike.refl U.vm) qK, qD, SZ.same rfl rfl qS⟩, va_recv hK hP (ci := 6) (q0 := ktp) rfl et_117, fun U hU hW => ⟨rfl, by rw [hU], by rw [hU]; exact hP, va_K.moved hW.alike hK, hD.weaken (fun _ _ _ _ => trivial), hsz9.go hS hW hU hFc⟩⟩ rfl rfl hl.1 rfl (lv_room (Nat.le_of_ble_eq_true rfl)) dX4_readTest_67 ⟨Nat.le_of_ble_eq_true rfl, Nat.le_of_ble_eq_true rfl⟩) hS (fun q _ h => hFc q h) hFc (fun r_133 u t H1 locs ht hvm w_134 hB hz1 hk1 hS => ?_)
        obtain ⟨ws_135, ty_136, hm_137, ht_139, hP1, hK1, hD1, hx_138⟩ := hB
        rw [ht] at hP1
        have hK := va_K.moved hvm.symm hK1
        have hD := hD1.weaken (fun _ _ _ h => hFc _ h)
        generalize H1 = H at hP1 hS ⊢
        have hP := hP1
        have e_140 := hm_137.objK er_116 (by decide)
        have e_141 := hm_137.objK et_117 (by decide)
        obtain ⟨f_143, e_142⟩ := hm_137.arrI e_122
        have u_144 := ht_139 _ _ u_123
        obtain ⟨f_146, e_145⟩ := hm_137.arrI e_128
        have u_147 := ht_139 _ _ u_129
        have hsm := hsm.tr (hm_137.mono (by decide))
        have htx := htx.tr ht_139
        rcases w_134 with rfl | rfl
        · refine lv_istore_n (lv' := [(2, .int 0), (1, .int z_132), (0, .ref rd)]) hx hb dX4_readTest_70 rfl hl (by decide) rfl (fun ls hl => ?_)
          refine lv_iload_n hx hb dX4_readTest_71 rfl (lv_at hl 0 rfl) ?_
          refine lv_if_ne (tgt := 92) hx hb dX4_readTest_72 (by decide) (fun c_148 => absurd (by decide) c_148) (fun c_148 => ?_)
          refine lv_aload_n hx hb dX4_readTest_75 rfl (lv_at hl 2 rfl) ?_
          refine va_get (D := D) (ci := 4) (v := .ref tp) (C := RX4) (T := TX4) (N := 8) hx hb hts hin4 hown hK hP krd e_140 rfl 0 (by decide) (hts (.fieldLink RX4 12 "HoneyHouse$RuleReader" "tape" "LHoneyHouse$Tape;") (List.mem_of_getElem? (i := 1) rfl)) (fun _ h9 => h9) rfl dX4_readTest_76 ?_
          refine va_ldcS hx hb hown hsz9.2.2.2.2.2.2.2.1 dX4_readTest_79 ?_
          have hFc := free_all hD hS hA
          refine va_calli (va_runV (As := [.ref (adK 4)]) (rest := []) ⟨hx, hb, hml, hown, hts⟩ (a_isWord l D ws_135 ty_136 adK adV fo 4 tp ktp tl ya_111 (nI ts_103) (nI te_104) bb k_124 c9_125 t_126 f_146 H.size (by decide) e_141 e_145 u_147) (cwV 1 hts gX4_readTest_X6_isWord rfl rfl rfl (by decide +kernel) ⟨Nat.le_of_ble_eq_true rfl, Nat.le_of_ble_eq_true rfl⟩) ⟨fun a U g mk q => by obtain ⟨q0, q1, qP, qK, qD, qS⟩ := q; exact ⟨q0, q1, qP, va_K.moved (u := U) (U := U.calling g mk a) (Vm.Alike.refl U.vm) qK, qD, SZ.same rfl rfl qS⟩, va_recv hK hP (ci := 6) (q0 := ktp) rfl e_141, fun U hU hW => ⟨rfl, by rw [hU], by rw [hU]; exact hP, va_K.moved hW.alike hK, hD.weaken (fun _ _ _ _ => trivial), hsz9.go hS hW hU hFc⟩⟩ rfl rfl hl.1 rfl (lv_room (Nat.le_of_ble_eq_true rfl)) dX4_readTest_81 ⟨Nat.le_of_ble_eq_true rfl, Nat.le_of_ble_eq_true rfl⟩) hS (fun q _ h => hFc q h) hFc (fun r_149 u t H1 locs ht hvm w_150 hB hz1 hk1 hS => ?_)
          obtain ⟨ws_151, ty_152, hm_153, ht_155, hP1, hK1, hD1, hx_154⟩ := hB
          rw [ht] at hP1
          have hK := va_K.moved hvm.symm hK1
          have hD := hD1.weaken (fun _ _ _ h => hFc _ h)
          generalize H1 = H at hP1 hS ⊢
          have hP := hP1
          have e_156 := hm_153.objK e_140 (by decide)
          have e_157 := hm_153.objK e_141 (by decide)
          obtain ⟨f_159, e_158⟩ := hm_153.arrI e_142
          have u_160 := ht_155 _ _ u_144
          obtain ⟨f_162, e_161⟩ := hm_153.arrI e_145
          have u_163 := ht_155 _ _ u_147
          have hsm := hsm.tr (hm_153.mono (by decide))
          have htx := htx.tr ht_155
          rcases w_150 with rfl | rfl
          · refine lv_if_ne (tgt := 92) hx hb dX4_readTest_84 (by decide) (fun c_164 => absurd (by decide) c_164) (fun c_164 => ?_)
            refine lv_aload_n hx hb dX4_readTest_87 rfl (lv_at hl 2 rfl) ?_
            have hFc := free_all hD hS hA
            refine va_calli (va_runV (As := []) (rest := []) ⟨hx, hb, hml, hown, hts⟩ (r_failHere l D ws_151 ty_152 adK adV fo rd krd tp ktp cd bb tl  H.size (⟨ts_103, te_104, cc_105, ra_106, rb_107, rc_108, rv_109, re_110, ya_111, by omega, by omega, by omega, by omega, e_156, e_157, ⟨k_118, c9_119, t_120, f_159, e_158, u_160⟩, ⟨k_124, c9_125, t_126, f_162, e_161, u_163⟩⟩ : RS ws_151 ty_152 rd krd tp ktp cd bb tl)) (cwV 0 hts gX4_readTest_X4_failHere rfl rfl rfl (by decide +kernel) ⟨Nat.le_of_ble_eq_true rfl, Nat.le_of_ble_eq_true rfl⟩) ⟨fun a U g mk q => by obtain ⟨q0, q1, qP, qK, qD, qS⟩ := q; exact ⟨q0, q1, qP, va_K.moved (u := U) (U := U.calling g mk a) (Vm.Alike.refl U.vm) qK, qD, SZ.same rfl rfl qS⟩, va_recv hK hP (ci := 4) (q0 := krd) rfl e_156, fun U hU hW => ⟨rfl, by rw [hU], by rw [hU]; exact hP, va_K.moved hW.alike hK, hD.weaken (fun _ _ _ _ => trivial), hsz9.go hS hW hU hFc⟩⟩ rfl rfl hl.1 rfl (lv_room (Nat.le_of_ble_eq_true rfl)) dX4_readTest_88 ⟨Nat.le_of_ble_eq_true rfl, Nat.le_of_ble_eq_true rfl⟩) hS (fun q _ h => hFc q h) hFc (fun r_165 u t H1 locs ht hvm w_166 hB hz1 hk1 hS => ?_)
            obtain ⟨ws_167, ty_168, hm_169, ht_171, hP1, hK1, hD1, hx_170⟩ := hB
            rw [ht] at hP1
            have hK := va_K.moved hvm.symm hK1
            have hD := hD1.weaken (fun _ _ _ h => hFc _ h)
            generalize H1 = H at hP1 hS ⊢
            have hP := hP1
            obtain ⟨g_173, e_172, h_174⟩ := hm_169.obj e_156
            obtain ⟨z_175, z_176, z_177, z_178, z_179, z_180, rfl⟩ := smX4 h_174
            obtain ⟨g_182, e_181, h_183⟩ := hm_169.obj e_157
            obtain ⟨z_184, z_185, z_186, z_187, rfl⟩ := smX6 h_183
            obtain ⟨f_189, e_188⟩ := hm_169.arrI e_158
            have u_190 := ht_171 _ _ u_160
            obtain ⟨f_192, e_191⟩ := hm_169.arrI e_161
            have u_193 := ht_171 _ _ u_163
            have hsm := hsm.tr (hm_169.mono (by decide))
            have htx := htx.tr ht_171
            obtain ⟨ts_194, te_195, cc_196, ra_197, rb_198, rc_199, rv_200, re_201, ya_202, h1_203, h2_204, h3_205, h4_206, er_207, et_208, ⟨k_209, c9_210, t_211, f_212, e_213, u_214⟩, ⟨k_215, c9_216, t_217, f_218, e_219, u_220⟩⟩ := id hx_170
            subst w_166
            exact W.zret (v := 0) hx hb hr rfl (fun t ht hW => ⟨⟨0, (), rfl, Or.inl rfl, ws_167, ty_168, hsm, htx, by rw [ht]; exact hP, va_K.moved hW.alike hK, hD, (⟨ts_194, te_195, cc_196, ra_197, rb_198, rc_199, rv_200, re_201, ya_202, by omega, by omega, by omega, by omega, er_207, et_208, ⟨k_209, c9_210, t_211, f_212, e_213, u_214⟩, ⟨k_215, c9_216, t_217, f_218, e_219, u_220⟩⟩ : RS ws_167 ty_168 rd krd tp ktp cd bb tl)⟩, hS.F ht⟩) hS.2.2 dX4_readTest_91
          refine lv_if_ne (tgt := 92) hx hb dX4_readTest_84 (by decide) (fun c_221 => ?_) (fun c_221 => absurd c_221 (by decide))
          refine lv_aload_n hx hb dX4_readTest_92 rfl (lv_at hl 2 rfl) ?_
          refine va_get (D := D) (ci := 4) (v := .ref tp) (C := RX4) (T := TX4) (N := 8) hx hb hts hin4 hown hK hP krd e_156 rfl 0 (by decide) (hts (.fieldLink RX4 12 "HoneyHouse$RuleReader" "tape" "LHoneyHouse$Tape;") (List.mem_of_getElem? (i := 1) rfl)) (fun _ h9 => h9) rfl dX4_readTest_93 ?_
          have hFc := free_all hD hS hA
          refine va_callv (va_runV (As := []) (rest := []) ⟨hx, hb, hml, hown, hts⟩ (a_advance l D ws_151 ty_152 tp ktp tl te_104 ya_111 (nI ts_103) bb k_124 c9_125 t_126 f_162 H.size (by omega) (by omega) e_157 e_161 u_163) (cwV 0 hts gX4_readTest_X6_advance rfl rfl rfl (by decide +kernel) ⟨Nat.le_of_ble_eq_true rfl, Nat.le_of_ble_eq_true rfl⟩) ⟨fun a U g mk q => by obtain ⟨q0, q1, qP, qK, qD⟩ := q; exact ⟨q0, q1, qP, va_K.moved (u := U) (U := U.calling g mk a) (Vm.Alike.refl U.vm) qK, qD⟩, va_recv hK hP (ci := 6) (q0 := ktp) rfl e_157, fun U hU hW => ⟨rfl, by rw [hU], by rw [hU]; exact hP, va_K.moved hW.alike hK, hD.weaken (fun _ _ _ _ => trivial)⟩⟩ rfl rfl hl.1 rfl (lv_room (Nat.le_of_ble_eq_true rfl)) dX4_readTest_96 ⟨Nat.le_of_ble_eq_true rfl, Nat.le_of_ble_eq_true rfl⟩) hS (fun q _ h => hFc q h) hFc (fun u t H1 locs ht hvm w_223 hB hz1 hk1 hS => ?_)
          obtain ⟨ws_224, ty_225, hm_226, ht_228, hP1, hK1, hD1, hx_227⟩ := hB
          rw [ht] at hP1
          have hK := va_K.moved hvm.symm hK1
          have hD := hD1.weaken (fun _ _ _ h => hFc _ h)
          generalize H1 = H at hP1 hS ⊢
          have hP := hP1
          have e_229 := hm_226.objK e_156 (by decide)
          obtain ⟨g_231, e_230, h_232⟩ := hm_226.obj e_157
          obtain ⟨z_233, z_234, z_235, z_236, rfl⟩ := smX6 h_232
          obtain ⟨f_238, e_237⟩ := hm_226.arrI e_158
          have u_239 := ht_228 _ _ u_160
          obtain ⟨f_241, e_240⟩ := hm_226.arrI e_161
          have u_242 := ht_228 _ _ u_163
          have hsm := hsm.tr (hm_226.mono (by decide))
          have htx := htx.tr ht_228
          obtain ⟨k_243, s_244, e_245, h_246, h_247, h_248, e_249⟩ := hx_227
          refine lv_aload_n hx hb dX4_readTest_99 rfl (lv_at hl 2 rfl) ?_
          refine lv_sipush (v := 1000) hx hb dX4_readTest_100 (by decide) ?_
          have hFc := free_all hD hS hA
          refine va_calli (va_runV (As := [.int 1000]) (rest := []) ⟨hx, hb, hml, hown, hts⟩ (r_readNumber l D ws_224 ty_225 adK adV fo rd krd tp ktp cd bb tl 1000 H.size (⟨s_244, e_245, cc_105, ra_106, rb_107, rc_108, rv_109, re_110, nI k_243, by omega, by omega, by omega, by omega, e_229, e_249, ⟨k_118, c9_119, t_120, f_238, e_237, u_239⟩, ⟨k_124, c9_125, t_126, f_241, e_240, u_242⟩⟩ : RS ws_224 ty_225 rd krd tp ktp cd bb tl)) (cwV 1 hts gX4_readTest_X4_readNumber rfl rfl rfl (by decide +kernel) ⟨Nat.le_of_ble_eq_true rfl, Nat.le_of_ble_eq_true rfl⟩) ⟨fun a U g mk q => by obtain ⟨q0, q1, qP, qK, qD, qS⟩ := q; exact ⟨q0, q1, qP, va_K.moved (u := U) (U := U.calling g mk a) (Vm.Alike.refl U.vm) qK, qD, SZ.same rfl rfl qS⟩, va_recv hK hP (ci := 4) (q0 := krd) rfl e_229, fun U hU hW => ⟨rfl, by rw [hU], by rw [hU]; exact hP, va_K.moved hW.alike hK, hD.weaken (fun _ _ _ _ => trivial), hsz9.go hS hW hU hFc⟩⟩ rfl rfl hl.1 rfl (lv_room (Nat.le_of_ble_eq_true rfl)) dX4_readTest_103 ⟨Nat.le_of_ble_eq_true rfl, Nat.le_of_ble_eq_true rfl⟩) hS (fun q _ h => hFc q h) hFc (fun r_250 u t H1 locs ht hvm w_251 hB hz1 hk1 hS => ?_)
          obtain ⟨ws_252, ty_253, hm_254, ht_256, hP1, hK1, hD1, hx_255⟩ := hB
          rw [ht] at hP1
          have hK := va_K.moved hvm.symm hK1
          have hD := hD1.weaken (fun _ _ _ h => hFc _ h)
          generalize H1 = H at hP1 hS ⊢
          have hP := hP1
          obtain ⟨g_258, e_257, h_259⟩ := hm_254.obj e_229
          obtain ⟨z_260, z_261, z_262, z_263, z_264, z_265, rfl⟩ := smX4 h_259
          obtain ⟨g_267, e_266, h_268⟩ := hm_254.obj e_249
          obtain ⟨z_269, z_270, z_271, z_272, rfl⟩ := smX6 h_268
          obtain ⟨f_274, e_273⟩ := hm_254.arrI e_237
          have u_275 := ht_256 _ _ u_239
          obtain ⟨f_277, e_276⟩ := hm_254.arrI e_240
          have u_278 := ht_256 _ _ u_242
          have hsm := hsm.tr (hm_254.mono (by decide))
          have htx := htx.tr ht_256
          obtain ⟨ts_279, te_280, cc_281, ra_282, rb_283, rc_284, rv_285, re_286, ya_287, h1_288, h2_289, h3_290, h4_291, er_292, et_293, ⟨k_294, c9_295, t_296, f_297, e_298, u_299⟩, ⟨k_300, c9_301, t_302, f_303, e_304, u_305⟩⟩ := id hx_255
          rcases w_251 with rfl | rfl
          · refine lv_if_ne (tgt := 111) hx hb dX4_readTest_106 (by decide) (fun c_306 => absurd (by decide) c_306) (fun c_306 => ?_)
            refine lv_iconst (v := 0) hx hb dX4_readTest_109 (by decide) ?_
            exact W.zret (v := 0) hx hb hr rfl (fun t ht hW => ⟨⟨0, (), rfl, Or.inl rfl, ws_252, ty_253, hsm, htx, by rw [ht]; exact hP, va_K.moved hW.alike hK, hD, (⟨ts_279, te_280, cc_281, ra_282, rb_283, rc_284, rv_285, re_286, ya_287, by omega, by omega, by omega, by omega, er_292, et_293, ⟨k_294, c9_295, t_296, f_297, e_298, u_299⟩, ⟨k_300, c9_301, t_302, f_303, e_304, u_305⟩⟩ : RS ws_252 ty_253 rd krd tp ktp cd bb tl)⟩, hS.F ht⟩) hS.2.2 dX4_readTest_110
          refine lv_if_ne (tgt := 111) hx hb dX4_readTest_106 (by decide) (fun c_307 => ?_) (fun c_307 => absurd c_307 (by decide))
          refine lv_aload_n hx hb dX4_readTest_111 rfl (lv_at hl 2 rfl) ?_
          refine lv_iload_n hx hb dX4_readTest_112 rfl (lv_at hl 1 rfl) ?_
          refine lv_iload_n hx hb dX4_readTest_113 rfl (lv_at hl 0 rfl) ?_
          refine lv_aload_n hx hb dX4_readTest_114 rfl (lv_at hl 2 rfl) ?_
          refine va_get (D := D) (ci := 4) (v := .int re_286) (C := RX4) (T := TX4) (N := 8) hx hb hts hin4 hown hK hP krd er_292 rfl 7 (by decide) (hts (.fieldLink RX4 56 "HoneyHouse$RuleReader" "value" "I") (List.mem_of_getElem? (i := 2) rfl)) (fun _ h9 => h9) rfl dX4_readTest_115 ?_
          refine vp_callSi (W.runS (As := [.int z_132, .int 0, .int re_286]) (rest := [.ref rd]) ⟨hx, hb, hml, hown, hts⟩ (s_testCode l z_132 0 re_286) (va_cwS 3 hts gX4_readTest_X4_testCode rfl rfl rfl (by decide +kernel) ⟨Nat.le_of_ble_eq_true rfl, Nat.le_of_ble_eq_true rfl⟩) ⟨fun a U g mk q => q, fun U hU hW => ⟨rfl, trivial⟩⟩ rfl rfl hl.1 rfl (lv_room (Nat.le_of_ble_eq_true rfl)) dX4_readTest_118 ⟨Nat.le_of_ble_eq_true rfl, Nat.le_of_ble_eq_true rfl⟩) (fun r_308 k_309 => ?_)
          have hFc := free_all hD hS hA
          refine va_callv (va_runV (As := [.int r_308]) (rest := []) ⟨hx, hb, hml, hown, hts⟩ (r_addCode l D ws_252 ty_253 adK adV fo rd krd tp ktp cd bb tl r_308 H.size (⟨ts_279, te_280, cc_281, ra_282, rb_283, rc_284, rv_285, re_286, ya_287, by omega, by omega, by omega, by omega, er_292, et_293, ⟨k_294, c9_295, t_296, f_297, e_298, u_299⟩, ⟨k_300, c9_301, t_302, f_303, e_304, u_305⟩⟩ : RS ws_252 ty_253 rd krd tp ktp cd bb tl)) (cwV 1 hts gX4_readTest_X4_addCode rfl rfl rfl (by decide +kernel) ⟨Nat.le_of_ble_eq_true rfl, Nat.le_of_ble_eq_true rfl⟩) ⟨fun a U g mk q => by obtain ⟨q0, q1, qP, qK, qD, qS⟩ := q; exact ⟨q0, q1, qP, va_K.moved (u := U) (U := U.calling g mk a) (Vm.Alike.refl U.vm) qK, qD, SZ.same rfl rfl qS⟩, va_recv hK hP (ci := 4) (q0 := krd) rfl er_292, fun U hU hW => ⟨rfl, by rw [hU], by rw [hU]; exact hP, va_K.moved hW.alike hK, hD.weaken (fun _ _ _ _ => trivial), hsz9.go hS hW hU hFc⟩⟩ rfl rfl hl.1 rfl (lv_room (Nat.le_of_ble_eq_true rfl)) dX4_readTest_121 ⟨Nat.le_of_ble_eq_true rfl, Nat.le_of_ble_eq_true rfl⟩) hS (fun q _ h => hFc q h) hFc (fun u t H1 locs ht hvm w_311 hB hz1 hk1 hS => ?_)
          obtain ⟨ws_312, ty_313, hm_314, ht_316, hP1, hK1, hD1, hx_315⟩ := hB
          rw [ht] at hP1
          have hK := va_K.moved hvm.symm hK1
          have hD := hD1.weaken (fun _ _ _ h => hFc _ h)
          generalize H1 = H at hP1 hS ⊢
          have hP := hP1
          obtain ⟨g_318, e_317, h_319⟩ := hm_314.obj er_292
          obtain ⟨z_320, z_321, z_322, z_323, z_324, z_325, rfl⟩ := smX4 h_319
          obtain ⟨g_327, e_326, h_328⟩ := hm_314.obj et_293
          obtain ⟨z_329, z_330, z_331, z_332, rfl⟩ := smX6 h_328
          obtain ⟨f_334, e_333⟩ := hm_314.arrI e_298
          have u_335 := ht_316 _ _ u_299
          obtain ⟨f_337, e_336⟩ := hm_314.arrI e_304
          have u_338 := ht_316 _ _ u_305
          have hsm := hsm.tr (hm_314.mono (by decide))
          have htx := htx.tr ht_316
          obtain ⟨ts_339, te_340, cc_341, ra_342, rb_343, rc_344, rv_345, re_346, ya_347, h1_348, h2_349, h3_350, h4_351, er_352, et_353, ⟨k_354, c9_355, t_356, f_357, e_358, u_359⟩, ⟨k_360, c9_361, t_362, f_363, e_364, u_365⟩⟩ := id hx_315
          refine lv_iconst (v := 1) hx hb dX4_readTest_124 (by decide) ?_
          exact W.zret (v := 1) hx hb hr rfl (fun t ht hW => ⟨⟨1, (), rfl, Or.inr rfl, ws_312, ty_313, hsm, htx, by rw [ht]; exact hP, va_K.moved hW.alike hK, hD, (⟨ts_339, te_340, cc_341, ra_342, rb_343, rc_344, rv_345, re_346, ya_347, by omega, by omega, by omega, by omega, er_352, et_353, ⟨k_354, c9_355, t_356, f_357, e_358, u_359⟩, ⟨k_360, c9_361, t_362, f_363, e_364, u_365⟩⟩ : RS ws_312 ty_313 rd krd tp ktp cd bb tl)⟩, hS.F ht⟩) hS.2.2 dX4_readTest_125
        refine lv_istore_n (lv' := [(2, .int 1), (1, .int z_132), (0, .ref rd)]) hx hb dX4_readTest_70 rfl hl (by decide) rfl (fun ls hl => ?_)
        refine lv_iload_n hx hb dX4_readTest_71 rfl (lv_at hl 0 rfl) ?_
        refine lv_if_ne (tgt := 92) hx hb dX4_readTest_72 (by decide) (fun c_366 => ?_) (fun c_366 => absurd c_366 (by decide))
        refine lv_aload_n hx hb dX4_readTest_92 rfl (lv_at hl 2 rfl) ?_
        refine va_get (D := D) (ci := 4) (v := .ref tp) (C := RX4) (T := TX4) (N := 8) hx hb hts hin4 hown hK hP krd e_140 rfl 0 (by decide) (hts (.fieldLink RX4 12 "HoneyHouse$RuleReader" "tape" "LHoneyHouse$Tape;") (List.mem_of_getElem? (i := 1) rfl)) (fun _ h9 => h9) rfl dX4_readTest_93 ?_
        have hFc := free_all hD hS hA
        refine va_callv (va_runV (As := []) (rest := []) ⟨hx, hb, hml, hown, hts⟩ (a_advance l D ws_135 ty_136 tp ktp tl te_104 ya_111 (nI ts_103) bb k_124 c9_125 t_126 f_146 H.size (by omega) (by omega) e_141 e_145 u_147) (cwV 0 hts gX4_readTest_X6_advance rfl rfl rfl (by decide +kernel) ⟨Nat.le_of_ble_eq_true rfl, Nat.le_of_ble_eq_true rfl⟩) ⟨fun a U g mk q => by obtain ⟨q0, q1, qP, qK, qD⟩ := q; exact ⟨q0, q1, qP, va_K.moved (u := U) (U := U.calling g mk a) (Vm.Alike.refl U.vm) qK, qD⟩, va_recv hK hP (ci := 6) (q0 := ktp) rfl e_141, fun U hU hW => ⟨rfl, by rw [hU], by rw [hU]; exact hP, va_K.moved hW.alike hK, hD.weaken (fun _ _ _ _ => trivial)⟩⟩ rfl rfl hl.1 rfl (lv_room (Nat.le_of_ble_eq_true rfl)) dX4_readTest_96 ⟨Nat.le_of_ble_eq_true rfl, Nat.le_of_ble_eq_true rfl⟩) hS (fun q _ h => hFc q h) hFc (fun u t H1 locs ht hvm w_368 hB hz1 hk1 hS => ?_)
        obtain ⟨ws_369, ty_370, hm_371, ht_373, hP1, hK1, hD1, hx_372⟩ := hB
        rw [ht] at hP1
        have hK := va_K.moved hvm.symm hK1
        have hD := hD1.weaken (fun _ _ _ h => hFc _ h)
        generalize H1 = H at hP1 hS ⊢
        have hP := hP1
        have e_374 := hm_371.objK e_140 (by decide)
        obtain ⟨g_376, e_375, h_377⟩ := hm_371.obj e_141
        obtain ⟨z_378, z_379, z_380, z_381, rfl⟩ := smX6 h_377
        obtain ⟨f_383, e_382⟩ := hm_371.arrI e_142
        have u_384 := ht_373 _ _ u_144
        obtain ⟨f_386, e_385⟩ := hm_371.arrI e_145
        have u_387 := ht_373 _ _ u_147
        have hsm := hsm.tr (hm_371.mono (by decide))
        have htx := htx.tr ht_373
        obtain ⟨k_388, s_389, e_390, h_391, h_392, h_393, e_394⟩ := hx_372
        refine lv_aload_n hx hb dX4_readTest_99 rfl (lv_at hl 2 rfl) ?_
        refine lv_sipush (v := 1000) hx hb dX4_readTest_100 (by decide) ?_
        have hFc := free_all hD hS hA
        refine va_calli (va_runV (As := [.int 1000]) (rest := []) ⟨hx, hb, hml, hown, hts⟩ (r_readNumber l D ws_369 ty_370 adK adV fo rd krd tp ktp cd bb tl 1000 H.size (⟨s_389, e_390, cc_105, ra_106, rb_107, rc_108, rv_109, re_110, nI k_388, by omega, by omega, by omega, by omega, e_374, e_394, ⟨k_118, c9_119, t_120, f_383, e_382, u_384⟩, ⟨k_124, c9_125, t_126, f_386, e_385, u_387⟩⟩ : RS ws_369 ty_370 rd krd tp ktp cd bb tl)) (cwV 1 hts gX4_readTest_X4_readNumber rfl rfl rfl (by decide +kernel) ⟨Nat.le_of_ble_eq_true rfl, Nat.le_of_ble_eq_true rfl⟩) ⟨fun a U g mk q => by obtain ⟨q0, q1, qP, qK, qD, qS⟩ := q; exact ⟨q0, q1, qP, va_K.moved (u := U) (U := U.calling g mk a) (Vm.Alike.refl U.vm) qK, qD, SZ.same rfl rfl qS⟩, va_recv hK hP (ci := 4) (q0 := krd) rfl e_374, fun U hU hW => ⟨rfl, by rw [hU], by rw [hU]; exact hP, va_K.moved hW.alike hK, hD.weaken (fun _ _ _ _ => trivial), hsz9.go hS hW hU hFc⟩⟩ rfl rfl hl.1 rfl (lv_room (Nat.le_of_ble_eq_true rfl)) dX4_readTest_103 ⟨Nat.le_of_ble_eq_true rfl, Nat.le_of_ble_eq_true rfl⟩) hS (fun q _ h => hFc q h) hFc (fun r_395 u t H1 locs ht hvm w_396 hB hz1 hk1 hS => ?_)
        obtain ⟨ws_397, ty_398, hm_399, ht_401, hP1, hK1, hD1, hx_400⟩ := hB
        rw [ht] at hP1
        have hK := va_K.moved hvm.symm hK1
        have hD := hD1.weaken (fun _ _ _ h => hFc _ h)
        generalize H1 = H at hP1 hS ⊢
        have hP := hP1
        obtain ⟨g_403, e_402, h_404⟩ := hm_399.obj e_374
        obtain ⟨z_405, z_406, z_407, z_408, z_409, z_410, rfl⟩ := smX4 h_404
        obtain ⟨g_412, e_411, h_413⟩ := hm_399.obj e_394
        obtain ⟨z_414, z_415, z_416, z_417, rfl⟩ := smX6 h_413
        obtain ⟨f_419, e_418⟩ := hm_399.arrI e_382
        have u_420 := ht_401 _ _ u_384
        obtain ⟨f_422, e_421⟩ := hm_399.arrI e_385
        have u_423 := ht_401 _ _ u_387
        have hsm := hsm.tr (hm_399.mono (by decide))
        have htx := htx.tr ht_401
        obtain ⟨ts_424, te_425, cc_426, ra_427, rb_428, rc_429, rv_430, re_431, ya_432, h1_433, h2_434, h3_435, h4_436, er_437, et_438, ⟨k_439, c9_440, t_441, f_442, e_443, u_444⟩, ⟨k_445, c9_446, t_447, f_448, e_449, u_450⟩⟩ := id hx_400
        rcases w_396 with rfl | rfl
        · refine lv_if_ne (tgt := 111) hx hb dX4_readTest_106 (by decide) (fun c_451 => absurd (by decide) c_451) (fun c_451 => ?_)
          refine lv_iconst (v := 0) hx hb dX4_readTest_109 (by decide) ?_
          exact W.zret (v := 0) hx hb hr rfl (fun t ht hW => ⟨⟨0, (), rfl, Or.inl rfl, ws_397, ty_398, hsm, htx, by rw [ht]; exact hP, va_K.moved hW.alike hK, hD, (⟨ts_424, te_425, cc_426, ra_427, rb_428, rc_429, rv_430, re_431, ya_432, by omega, by omega, by omega, by omega, er_437, et_438, ⟨k_439, c9_440, t_441, f_442, e_443, u_444⟩, ⟨k_445, c9_446, t_447, f_448, e_449, u_450⟩⟩ : RS ws_397 ty_398 rd krd tp ktp cd bb tl)⟩, hS.F ht⟩) hS.2.2 dX4_readTest_110
        refine lv_if_ne (tgt := 111) hx hb dX4_readTest_106 (by decide) (fun c_452 => ?_) (fun c_452 => absurd c_452 (by decide))
        refine lv_aload_n hx hb dX4_readTest_111 rfl (lv_at hl 2 rfl) ?_
        refine lv_iload_n hx hb dX4_readTest_112 rfl (lv_at hl 1 rfl) ?_
        refine lv_iload_n hx hb dX4_readTest_113 rfl (lv_at hl 0 rfl) ?_
        refine lv_aload_n hx hb dX4_readTest_114 rfl (lv_at hl 2 rfl) ?_
        refine va_get (D := D) (ci := 4) (v := .int re_431) (C := RX4) (T := TX4) (N := 8) hx hb hts hin4 hown hK hP krd er_437 rfl 7 (by decide) (hts (.fieldLink RX4 56 "HoneyHouse$RuleReader" "value" "I") (List.mem_of_getElem? (i := 2) rfl)) (fun _ h9 => h9) rfl dX4_readTest_115 ?_
        refine vp_callSi (W.runS (As := [.int z_132, .int 1, .int re_431]) (rest := [.ref rd]) ⟨hx, hb, hml, hown, hts⟩ (s_testCode l z_132 1 re_431) (va_cwS 3 hts gX4_readTest_X4_testCode rfl rfl rfl (by decide +kernel) ⟨Nat.le_of_ble_eq_true rfl, Nat.le_of_ble_eq_true rfl⟩) ⟨fun a U g mk q => q, fun U hU hW => ⟨rfl, trivial⟩⟩ rfl rfl hl.1 rfl (lv_room (Nat.le_of_ble_eq_true rfl)) dX4_readTest_118 ⟨Nat.le_of_ble_eq_true rfl, Nat.le_of_ble_eq_true rfl⟩) (fun r_453 k_454 => ?_)
        have hFc := free_all hD hS hA
        refine va_callv (va_runV (As := [.int r_453]) (rest := []) ⟨hx, hb, hml, hown, hts⟩ (r_addCode l D ws_397 ty_398 adK adV fo rd krd tp ktp cd bb tl r_453 H.size (⟨ts_424, te_425, cc_426, ra_427, rb_428, rc_429, rv_430, re_431, ya_432, by omega, by omega, by omega, by omega, er_437, et_438, ⟨k_439, c9_440, t_441, f_442, e_443, u_444⟩, ⟨k_445, c9_446, t_447, f_448, e_449, u_450⟩⟩ : RS ws_397 ty_398 rd krd tp ktp cd bb tl)) (cwV 1 hts gX4_readTest_X4_addCode rfl rfl rfl (by decide +kernel) ⟨Nat.le_of_ble_eq_true rfl, Nat.le_of_ble_eq_true rfl⟩) ⟨fun a U g mk q => by obtain ⟨q0, q1, qP, qK, qD, qS⟩ := q; exact ⟨q0, q1, qP, va_K.moved (u := U) (U := U.calling g mk a) (Vm.Alike.refl U.vm) qK, qD, SZ.same rfl rfl qS⟩, va_recv hK hP (ci := 4) (q0 := krd) rfl er_437, fun U hU hW => ⟨rfl, by rw [hU], by rw [hU]; exact hP, va_K.moved hW.alike hK, hD.weaken (fun _ _ _ _ => trivial), hsz9.go hS hW hU hFc⟩⟩ rfl rfl hl.1 rfl (lv_room (Nat.le_of_ble_eq_true rfl)) dX4_readTest_121 ⟨Nat.le_of_ble_eq_true rfl, Nat.le_of_ble_eq_true rfl⟩) hS (fun q _ h => hFc q h) hFc (fun u t H1 locs ht hvm w_456 hB hz1 hk1 hS => ?_)
        obtain ⟨ws_457, ty_458, hm_459, ht_461, hP1, hK1, hD1, hx_460⟩ := hB
        rw [ht] at hP1
        have hK := va_K.moved hvm.symm hK1
        have hD := hD1.weaken (fun _ _ _ h => hFc _ h)
        generalize H1 = H at hP1 hS ⊢
        have hP := hP1
        obtain ⟨g_463, e_462, h_464⟩ := hm_459.obj er_437
        obtain ⟨z_465, z_466, z_467, z_468, z_469, z_470, rfl⟩ := smX4 h_464
        obtain ⟨g_472, e_471, h_473⟩ := hm_459.obj et_438
        obtain ⟨z_474, z_475, z_476, z_477, rfl⟩ := smX6 h_473
        obtain ⟨f_479, e_478⟩ := hm_459.arrI e_443
        have u_480 := ht_461 _ _ u_444
        obtain ⟨f_482, e_481⟩ := hm_459.arrI e_449
        have u_483 := ht_461 _ _ u_450
        have hsm := hsm.tr (hm_459.mono (by decide))
        have htx := htx.tr ht_461
        obtain ⟨ts_484, te_485, cc_486, ra_487, rb_488, rc_489, rv_490, re_491, ya_492, h1_493, h2_494, h3_495, h4_496, er_497, et_498, ⟨k_499, c9_500, t_501, f_502, e_503, u_504⟩, ⟨k_505, c9_506, t_507, f_508, e_509, u_510⟩⟩ := id hx_460
        refine lv_iconst (v := 1) hx hb dX4_readTest_124 (by decide) ?_
        exact W.zret (v := 1) hx hb hr rfl (fun t ht hW => ⟨⟨1, (), rfl, Or.inr rfl, ws_457, ty_458, hsm, htx, by rw [ht]; exact hP, va_K.moved hW.alike hK, hD, (⟨ts_484, te_485, cc_486, ra_487, rb_488, rc_489, rv_490, re_491, ya_492, by omega, by omega, by omega, by omega, er_497, et_498, ⟨k_499, c9_500, t_501, f_502, e_503, u_504⟩, ⟨k_505, c9_506, t_507, f_508, e_509, u_510⟩⟩ : RS ws_457 ty_458 rd krd tp ktp cd bb tl)⟩, hS.F ht⟩) hS.2.2 dX4_readTest_125
      refine lv_iconst (v := 3) hx hb dX4_readTest_41 (by decide) ?_
      refine lv_goto (tgt := 46) hx hb dX4_readTest_42 (by decide) ?_
      have hFc := free_all hD hS hA
      refine va_calli (va_runV (As := [.int 3]) (rest := []) ⟨hx, hb, hml, hown, hts⟩ (r_readNumber l D ws_46 ty_47 adK adV fo rd krd tp ktp cd bb tl 3 H.size (⟨s_66, e_67, cc_3, ra_4, rb_5, rc_6, rv_7, re_8, nI k_65, by omega, by omega, by omega, by omega, e_51, e_71, ⟨k_16, c9_17, t_18, f_60, e_59, u_61⟩, ⟨k_22, c9_23, t_24, f_63, e_62, u_64⟩⟩ : RS ws_46 ty_47 rd krd tp ktp cd bb tl)) (cwV 1 hts gX4_readTest_X4_readNumber rfl rfl rfl (by decide +kernel) ⟨Nat.le_of_ble_eq_true rfl, Nat.le_of_ble_eq_true rfl⟩) ⟨fun a U g mk q => by obtain ⟨q0, q1, qP, qK, qD, qS⟩ := q; exact ⟨q0, q1, qP, va_K.moved (u := U) (U := U.calling g mk a) (Vm.Alike.refl U.vm) qK, qD, SZ.same rfl rfl qS⟩, va_recv hK hP (ci := 4) (q0 := krd) rfl e_51, fun U hU hW => ⟨rfl, by rw [hU], by rw [hU]; exact hP, va_K.moved hW.alike hK, hD.weaken (fun _ _ _ _ => trivial), hsz9.go hS hW hU hFc⟩⟩ rfl rfl hl.1 rfl (lv_room (Nat.le_of_ble_eq_true rfl)) dX4_readTest_46 ⟨Nat.le_of_ble_eq_true rfl, Nat.le_of_ble_eq_true rfl⟩) hS (fun q _ h => hFc q h) hFc (fun r_511 u t H1 locs ht hvm w_512 hB hz1 hk1 hS => ?_)
      obtain ⟨ws_513, ty_514, hm_515, ht_517, hP1, hK1, hD1, hx_516⟩ := hB
      rw [ht] at hP1
      have hK := va_K.moved hvm.symm hK1
      have hD := hD1.weaken (fun _ _ _ h => hFc _ h)
      generalize H1 = H at hP1 hS ⊢
      have hP := hP1
      obtain ⟨g_519, e_518, h_520⟩ := hm_515.obj e_51
      obtain ⟨z_521, z_522, z_523, z_524, z_525, z_526, rfl⟩ := smX4 h_520
      obtain ⟨g_528, e_527, h_529⟩ := hm_515.obj e_71
      obtain ⟨z_530, z_531, z_532, z_533, rfl⟩ := smX6 h_529
      obtain ⟨f_535, e_534⟩ := hm_515.arrI e_59
      have u_536 := ht_517 _ _ u_61
      obtain ⟨f_538, e_537⟩ := hm_515.arrI e_62
      have u_539 := ht_517 _ _ u_64
      have hsm := hsm.tr (hm_515.mono (by decide))
      have htx := htx.tr ht_517
      obtain ⟨ts_540, te_541, cc_542, ra_543, rb_544, rc_545, rv_546, re_547, ya_548, h1_549, h2_550, h3_551, h4_552, er_553, et_554, ⟨k_555, c9_556, t_557, f_558, e_559, u_560⟩, ⟨k_561, c9_562, t_563, f_564, e_565, u_566⟩⟩ := id hx_516
      rcases w_512 with rfl | rfl
      · refine lv_if_ne (tgt := 54) hx hb dX4_readTest_49 (by decide) (fun c_567 => absurd (by decide) c_567) (fun c_567 => ?_)
        refine lv_iconst (v := 0) hx hb dX4_readTest_52 (by decide) ?_
        exact W.zret (v := 0) hx hb hr rfl (fun t ht hW => ⟨⟨0, (), rfl, Or.inl rfl, ws_513, ty_514, hsm, htx, by rw [ht]; exact hP, va_K.moved hW.alike hK, hD, (⟨ts_540, te_541, cc_542, ra_543, rb_544, rc_545, rv_546, re_547, ya_548, by omega, by omega, by omega, by omega, er_553, et_554, ⟨k_555, c9_556, t_557, f_558, e_559, u_560⟩, ⟨k_561, c9_562, t_563, f_564, e_565, u_566⟩⟩ : RS ws_513 ty_514 rd krd tp ktp cd bb tl)⟩, hS.F ht⟩) hS.2.2 dX4_readTest_53
      refine lv_if_ne (tgt := 54) hx hb dX4_readTest_49 (by decide) (fun c_568 => ?_) (fun c_568 => absurd c_568 (by decide))
      refine lv_iload_n hx hb dX4_readTest_54 rfl (lv_at hl 0 rfl) ?_
      refine lv_aload_n hx hb dX4_readTest_55 rfl (lv_at hl 1 rfl) ?_
      refine va_get (D := D) (ci := 4) (v := .int re_547) (C := RX4) (T := TX4) (N := 8) hx hb hts hin4 hown hK hP krd er_553 rfl 7 (by decide) (hts (.fieldLink RX4 56 "HoneyHouse$RuleReader" "value" "I") (List.mem_of_getElem? (i := 2) rfl)) (fun _ h9 => h9) rfl dX4_readTest_56 ?_
      refine lv_iadd hx hb dX4_readTest_59 ?_
      refine lv_topi (fun z_569 _ => ?_)
      refine lv_istore_n (lv' := [(1, .int z_569), (0, .ref rd)]) hx hb dX4_readTest_60 rfl hl (by decide) rfl (fun ls hl => ?_)
      refine lv_aload_n hx hb dX4_readTest_61 rfl (lv_at hl 1 rfl) ?_
      refine va_get (D := D) (ci := 4) (v := .ref tp) (C := RX4) (T := TX4) (N := 8) hx hb hts hin4 hown hK hP krd er_553 rfl 0 (by decide) (hts (.fieldLink RX4 12 "HoneyHouse$RuleReader" "tape" "LHoneyHouse$Tape;") (List.mem_of_getElem? (i := 1) rfl)) (fun _ h9 => h9) rfl dX4_readTest_62 ?_
      refine va_ldcS hx hb hown hsz9.2.2.2.2.2.2.2.2.1 dX4_readTest_65 ?_
      have hFc := free_all hD hS hA
      refine va_calli (va_runV (As := [.ref (adK 5)]) (rest := []) ⟨hx, hb, hml, hown, hts⟩ (a_isWord l D ws_513 ty_514 adK adV fo 5 tp ktp tl ya_548 (nI ts_540) (nI te_541) bb k_561 c9_562 t_563 f_564 H.size (by decide) et_554 e_565 u_566) (cwV 1 hts gX4_readTest_X6_isWord rfl rfl rfl (by decide +kernel) ⟨Nat.le_of_ble_eq_true rfl, Nat.le_of_ble_eq_true rfl⟩) ⟨fun a U g mk q => by obtain ⟨q0, q1, qP, qK, qD, qS⟩ := q; exact ⟨q0, q1, qP, va_K.moved (u := U) (U := U.calling g mk a) (Vm.Alike.refl U.vm) qK, qD, SZ.same rfl rfl qS⟩, va_recv hK hP (ci := 6) (q0 := ktp) rfl et_554, fun U hU hW => ⟨rfl, by rw [hU], by rw [hU]; exact hP, va_K.moved hW.alike hK, hD.weaken (fun _ _ _ _ => trivial), hsz9.go hS hW hU hFc⟩⟩ rfl rfl hl.1 rfl (lv_room (Nat.le_of_ble_eq_true rfl)) dX4_readTest_67 ⟨Nat.le_of_ble_eq_true rfl, Nat.le_of_ble_eq_true rfl⟩) hS (fun q _ h => hFc q h) hFc (fun r_570 u t H1 locs ht hvm w_571 hB hz1 hk1 hS => ?_)
      obtain ⟨ws_572, ty_573, hm_574, ht_576, hP1, hK1, hD1, hx_575⟩ := hB
      rw [ht] at hP1
      have hK := va_K.moved hvm.symm hK1
      have hD := hD1.weaken (fun _ _ _ h => hFc _ h)
      generalize H1 = H at hP1 hS ⊢
      have hP := hP1
      have e_577 := hm_574.objK er_553 (by decide)
      have e_578 := hm_574.objK et_554 (by decide)
      obtain ⟨f_580, e_579⟩ := hm_574.arrI e_559
      have u_581 := ht_576 _ _ u_560
      obtain ⟨f_583, e_582⟩ := hm_574.arrI e_565
      have u_584 := ht_576 _ _ u_566
      have hsm := hsm.tr (hm_574.mono (by decide))
      have htx := htx.tr ht_576
      rcases w_571 with rfl | rfl
      · refine lv_istore_n (lv' := [(2, .int 0), (1, .int z_569), (0, .ref rd)]) hx hb dX4_readTest_70 rfl hl (by decide) rfl (fun ls hl => ?_)
        refine lv_iload_n hx hb dX4_readTest_71 rfl (lv_at hl 0 rfl) ?_
        refine lv_if_ne (tgt := 92) hx hb dX4_readTest_72 (by decide) (fun c_585 => absurd (by decide) c_585) (fun c_585 => ?_)
        refine lv_aload_n hx hb dX4_readTest_75 rfl (lv_at hl 2 rfl) ?_
        refine va_get (D := D) (ci := 4) (v := .ref tp) (C := RX4) (T := TX4) (N := 8) hx hb hts hin4 hown hK hP krd e_577 rfl 0 (by decide) (hts (.fieldLink RX4 12 "HoneyHouse$RuleReader" "tape" "LHoneyHouse$Tape;") (List.mem_of_getElem? (i := 1) rfl)) (fun _ h9 => h9) rfl dX4_readTest_76 ?_
        refine va_ldcS hx hb hown hsz9.2.2.2.2.2.2.2.1 dX4_readTest_79 ?_
        have hFc := free_all hD hS hA
        refine va_calli (va_runV (As := [.ref (adK 4)]) (rest := []) ⟨hx, hb, hml, hown, hts⟩ (a_isWord l D ws_572 ty_573 adK adV fo 4 tp ktp tl ya_548 (nI ts_540) (nI te_541) bb k_561 c9_562 t_563 f_583 H.size (by decide) e_578 e_582 u_584) (cwV 1 hts gX4_readTest_X6_isWord rfl rfl rfl (by decide +kernel) ⟨Nat.le_of_ble_eq_true rfl, Nat.le_of_ble_eq_true rfl⟩) ⟨fun a U g mk q => by obtain ⟨q0, q1, qP, qK, qD, qS⟩ := q; exact ⟨q0, q1, qP, va_K.moved (u := U) (U := U.calling g mk a) (Vm.Alike.refl U.vm) qK, qD, SZ.same rfl rfl qS⟩, va_recv hK hP (ci := 6) (q0 := ktp) rfl e_578, fun U hU hW => ⟨rfl, by rw [hU], by rw [hU]; exact hP, va_K.moved hW.alike hK, hD.weaken (fun _ _ _ _ => trivial), hsz9.go hS hW hU hFc⟩⟩ rfl rfl hl.1 rfl (lv_room (Nat.le_of_ble_eq_true rfl)) dX4_readTest_81 ⟨Nat.le_of_ble_eq_true rfl, Nat.le_of_ble_eq_true rfl⟩) hS (fun q _ h => hFc q h) hFc (fun r_586 u t H1 locs ht hvm w_587 hB hz1 hk1 hS => ?_)
        obtain ⟨ws_588, ty_589, hm_590, ht_592, hP1, hK1, hD1, hx_591⟩ := hB
        rw [ht] at hP1
        have hK := va_K.moved hvm.symm hK1
        have hD := hD1.weaken (fun _ _ _ h => hFc _ h)
        generalize H1 = H at hP1 hS ⊢
        have hP := hP1
        have e_593 := hm_590.objK e_577 (by decide)
        have e_594 := hm_590.objK e_578 (by decide)
        obtain ⟨f_596, e_595⟩ := hm_590.arrI e_579
        have u_597 := ht_592 _ _ u_581
        obtain ⟨f_599, e_598⟩ := hm_590.arrI e_582
        have u_600 := ht_592 _ _ u_584
        have hsm := hsm.tr (hm_590.mono (by decide))
        have htx := htx.tr ht_592
        rcases w_587 with rfl | rfl
        · refine lv_if_ne (tgt := 92) hx hb dX4_readTest_84 (by decide) (fun c_601 => absurd (by decide) c_601) (fun c_601 => ?_)
          refine lv_aload_n hx hb dX4_readTest_87 rfl (lv_at hl 2 rfl) ?_
          have hFc := free_all hD hS hA
          refine va_calli (va_runV (As := []) (rest := []) ⟨hx, hb, hml, hown, hts⟩ (r_failHere l D ws_588 ty_589 adK adV fo rd krd tp ktp cd bb tl  H.size (⟨ts_540, te_541, cc_542, ra_543, rb_544, rc_545, rv_546, re_547, ya_548, by omega, by omega, by omega, by omega, e_593, e_594, ⟨k_555, c9_556, t_557, f_596, e_595, u_597⟩, ⟨k_561, c9_562, t_563, f_599, e_598, u_600⟩⟩ : RS ws_588 ty_589 rd krd tp ktp cd bb tl)) (cwV 0 hts gX4_readTest_X4_failHere rfl rfl rfl (by decide +kernel) ⟨Nat.le_of_ble_eq_true rfl, Nat.le_of_ble_eq_true rfl⟩) ⟨fun a U g mk q => by obtain ⟨q0, q1, qP, qK, qD, qS⟩ := q; exact ⟨q0, q1, qP, va_K.moved (u := U) (U := U.calling g mk a) (Vm.Alike.refl U.vm) qK, qD, SZ.same rfl rfl qS⟩, va_recv hK hP (ci := 4) (q0 := krd) rfl e_593, fun U hU hW => ⟨rfl, by rw [hU], by rw [hU]; exact hP, va_K.moved hW.alike hK, hD.weaken (fun _ _ _ _ => trivial), hsz9.go hS hW hU hFc⟩⟩ rfl rfl hl.1 rfl (lv_room (Nat.le_of_ble_eq_true rfl)) dX4_readTest_88 ⟨Nat.le_of_ble_eq_true rfl, Nat.le_of_ble_eq_true rfl⟩) hS (fun q _ h => hFc q h) hFc (fun r_602 u t H1 locs ht hvm w_603 hB hz1 hk1 hS => ?_)
          obtain ⟨ws_604, ty_605, hm_606, ht_608, hP1, hK1, hD1, hx_607⟩ := hB
          rw [ht] at hP1
          have hK := va_K.moved hvm.symm hK1
          have hD := hD1.weaken (fun _ _ _ h => hFc _ h)
          generalize H1 = H at hP1 hS ⊢
          have hP := hP1
          obtain ⟨g_610, e_609, h_611⟩ := hm_606.obj e_593
          obtain ⟨z_612, z_613, z_614, z_615, z_616, z_617, rfl⟩ := smX4 h_611
          obtain ⟨g_619, e_618, h_620⟩ := hm_606.obj e_594
          obtain ⟨z_621, z_622, z_623, z_624, rfl⟩ := smX6 h_620
          obtain ⟨f_626, e_625⟩ := hm_606.arrI e_595
          have u_627 := ht_608 _ _ u_597
          obtain ⟨f_629, e_628⟩ := hm_606.arrI e_598
          have u_630 := ht_608 _ _ u_600
          have hsm := hsm.tr (hm_606.mono (by decide))
          have htx := htx.tr ht_608
          obtain ⟨ts_631, te_632, cc_633, ra_634, rb_635, rc_636, rv_637, re_638, ya_639, h1_640, h2_641, h3_642, h4_643, er_644, et_645, ⟨k_646, c9_647, t_648, f_649, e_650, u_651⟩, ⟨k_652, c9_653, t_654, f_655, e_656, u_657⟩⟩ := id hx_607
          subst w_603
          exact W.zret (v := 0) hx hb hr rfl (fun t ht hW => ⟨⟨0, (), rfl, Or.inl rfl, ws_604, ty_605, hsm, htx, by rw [ht]; exact hP, va_K.moved hW.alike hK, hD, (⟨ts_631, te_632, cc_633, ra_634, rb_635, rc_636, rv_637, re_638, ya_639, by omega, by omega, by omega, by omega, er_644, et_645, ⟨k_646, c9_647, t_648, f_649, e_650, u_651⟩, ⟨k_652, c9_653, t_654, f_655, e_656, u_657⟩⟩ : RS ws_604 ty_605 rd krd tp ktp cd bb tl)⟩, hS.F ht⟩) hS.2.2 dX4_readTest_91
        refine lv_if_ne (tgt := 92) hx hb dX4_readTest_84 (by decide) (fun c_658 => ?_) (fun c_658 => absurd c_658 (by decide))
        refine lv_aload_n hx hb dX4_readTest_92 rfl (lv_at hl 2 rfl) ?_
        refine va_get (D := D) (ci := 4) (v := .ref tp) (C := RX4) (T := TX4) (N := 8) hx hb hts hin4 hown hK hP krd e_593 rfl 0 (by decide) (hts (.fieldLink RX4 12 "HoneyHouse$RuleReader" "tape" "LHoneyHouse$Tape;") (List.mem_of_getElem? (i := 1) rfl)) (fun _ h9 => h9) rfl dX4_readTest_93 ?_
        have hFc := free_all hD hS hA
        refine va_callv (va_runV (As := []) (rest := []) ⟨hx, hb, hml, hown, hts⟩ (a_advance l D ws_588 ty_589 tp ktp tl te_541 ya_548 (nI ts_540) bb k_561 c9_562 t_563 f_599 H.size (by omega) (by omega) e_594 e_598 u_600) (cwV 0 hts gX4_readTest_X6_advance rfl rfl rfl (by decide +kernel) ⟨Nat.le_of_ble_eq_true rfl, Nat.le_of_ble_eq_true rfl⟩) ⟨fun a U g mk q => by obtain ⟨q0, q1, qP, qK, qD⟩ := q; exact ⟨q0, q1, qP, va_K.moved (u := U) (U := U.calling g mk a) (Vm.Alike.refl U.vm) qK, qD⟩, va_recv hK hP (ci := 6) (q0 := ktp) rfl e_594, fun U hU hW => ⟨rfl, by rw [hU], by rw [hU]; exact hP, va_K.moved hW.alike hK, hD.weaken (fun _ _ _ _ => trivial)⟩⟩ rfl rfl hl.1 rfl (lv_room (Nat.le_of_ble_eq_true rfl)) dX4_readTest_96 ⟨Nat.le_of_ble_eq_true rfl, Nat.le_of_ble_eq_true rfl⟩) hS (fun q _ h => hFc q h) hFc (fun u t H1 locs ht hvm w_660 hB hz1 hk1 hS => ?_)
        obtain ⟨ws_661, ty_662, hm_663, ht_665, hP1, hK1, hD1, hx_664⟩ := hB
        rw [ht] at hP1
        have hK := va_K.moved hvm.symm hK1
        have hD := hD1.weaken (fun _ _ _ h => hFc _ h)
        generalize H1 = H at hP1 hS ⊢
        have hP := hP1
        have e_666 := hm_663.objK e_593 (by decide)
        obtain ⟨g_668, e_667, h_669⟩ := hm_663.obj e_594
        obtain ⟨z_670, z_671, z_672, z_673, rfl⟩ := smX6 h_669
        obtain ⟨f_675, e_674⟩ := hm_663.arrI e_595
        have u_676 := ht_665 _ _ u_597
        obtain ⟨f_678, e_677⟩ := hm_663.arrI e_598
        have u_679 := ht_665 _ _ u_600
        have hsm := hsm.tr (hm_663.mono (by decide))
        have htx := htx.tr ht_665
        obtain ⟨k_680, s_681, e_682, h_683, h_684, h_685, e_686⟩ := hx_664
        refine lv_aload_n hx hb dX4_readTest_99 rfl (lv_at hl 2 rfl) ?_
        refine lv_sipush (v := 1000) hx hb dX4_readTest_100 (by decide) ?_
        have hFc := free_all hD hS hA
        refine va_calli (va_runV (As := [.int 1000]) (rest := []) ⟨hx, hb, hml, hown, hts⟩ (r_readNumber l D ws_661 ty_662 adK adV fo rd krd tp ktp cd bb tl 1000 H.size (⟨s_681, e_682, cc_542, ra_543, rb_544, rc_545, rv_546, re_547, nI k_680, by omega, by omega, by omega, by omega, e_666, e_686, ⟨k_555, c9_556, t_557, f_675, e_674, u_676⟩, ⟨k_561, c9_562, t_563, f_678, e_677, u_679⟩⟩ : RS ws_661 ty_662 rd krd tp ktp cd bb tl)) (cwV 1 hts gX4_readTest_X4_readNumber rfl rfl rfl (by decide +kernel) ⟨Nat.le_of_ble_eq_true rfl, Nat.le_of_ble_eq_true rfl⟩) ⟨fun a U g mk q => by obtain ⟨q0, q1, qP, qK, qD, qS⟩ := q; exact ⟨q0, q1, qP, va_K.moved (u := U) (U := U.calling g mk a) (Vm.Alike.refl U.vm) qK, qD, SZ.same rfl rfl qS⟩, va_recv hK hP (ci := 4) (q0 := krd) rfl e_666, fun U hU hW => ⟨rfl, by rw [hU], by rw [hU]; exact hP, va_K.moved hW.alike hK, hD.weaken (fun _ _ _ _ => trivial), hsz9.go hS hW hU hFc⟩⟩ rfl rfl hl.1 rfl (lv_room (Nat.le_of_ble_eq_true rfl)) dX4_readTest_103 ⟨Nat.le_of_ble_eq_true rfl, Nat.le_of_ble_eq_true rfl⟩) hS (fun q _ h => hFc q h) hFc (fun r_687 u t H1 locs ht hvm w_688 hB hz1 hk1 hS => ?_)
        obtain ⟨ws_689, ty_690, hm_691, ht_693, hP1, hK1, hD1, hx_692⟩ := hB
        rw [ht] at hP1
        have hK := va_K.moved hvm.symm hK1
        have hD := hD1.weaken (fun _ _ _ h => hFc _ h)
        generalize H1 = H at hP1 hS ⊢
        have hP := hP1
        obtain ⟨g_695, e_694, h_696⟩ := hm_691.obj e_666
        obtain ⟨z_697, z_698, z_699, z_700, z_701, z_702, rfl⟩ := smX4 h_696
        obtain ⟨g_704, e_703, h_705⟩ := hm_691.obj e_686
        obtain ⟨z_706, z_707, z_708, z_709, rfl⟩ := smX6 h_705
        obtain ⟨f_711, e_710⟩ := hm_691.arrI e_674
        have u_712 := ht_693 _ _ u_676
        obtain ⟨f_714, e_713⟩ := hm_691.arrI e_677
        have u_715 := ht_693 _ _ u_679
        have hsm := hsm.tr (hm_691.mono (by decide))
        have htx := htx.tr ht_693
        obtain ⟨ts_716, te_717, cc_718, ra_719, rb_720, rc_721, rv_722, re_723, ya_724, h1_725, h2_726, h3_727, h4_728, er_729, et_730, ⟨k_731, c9_732, t_733, f_734, e_735, u_736⟩, ⟨k_737, c9_738, t_739, f_740, e_741, u_742⟩⟩ := id hx_692
        rcases w_688 with rfl | rfl
        · refine lv_if_ne (tgt := 111) hx hb dX4_readTest_106 (by decide) (fun c_743 => absurd (by decide) c_743) (fun c_743 => ?_)
          refine lv_iconst (v := 0) hx hb dX4_readTest_109 (by decide) ?_
          exact W.zret (v := 0) hx hb hr rfl (fun t ht hW => ⟨⟨0, (), rfl, Or.inl rfl, ws_689, ty_690, hsm, htx, by rw [ht]; exact hP, va_K.moved hW.alike hK, hD, (⟨ts_716, te_717, cc_718, ra_719, rb_720, rc_721, rv_722, re_723, ya_724, by omega, by omega, by omega, by omega, er_729, et_730, ⟨k_731, c9_732, t_733, f_734, e_735, u_736⟩, ⟨k_737, c9_738, t_739, f_740, e_741, u_742⟩⟩ : RS ws_689 ty_690 rd krd tp ktp cd bb tl)⟩, hS.F ht⟩) hS.2.2 dX4_readTest_110
        refine lv_if_ne (tgt := 111) hx hb dX4_readTest_106 (by decide) (fun c_744 => ?_) (fun c_744 => absurd c_744 (by decide))
        refine lv_aload_n hx hb dX4_readTest_111 rfl (lv_at hl 2 rfl) ?_
        refine lv_iload_n hx hb dX4_readTest_112 rfl (lv_at hl 1 rfl) ?_
        refine lv_iload_n hx hb dX4_readTest_113 rfl (lv_at hl 0 rfl) ?_
        refine lv_aload_n hx hb dX4_readTest_114 rfl (lv_at hl 2 rfl) ?_
        refine va_get (D := D) (ci := 4) (v := .int re_723) (C := RX4) (T := TX4) (N := 8) hx hb hts hin4 hown hK hP krd er_729 rfl 7 (by decide) (hts (.fieldLink RX4 56 "HoneyHouse$RuleReader" "value" "I") (List.mem_of_getElem? (i := 2) rfl)) (fun _ h9 => h9) rfl dX4_readTest_115 ?_
        refine vp_callSi (W.runS (As := [.int z_569, .int 0, .int re_723]) (rest := [.ref rd]) ⟨hx, hb, hml, hown, hts⟩ (s_testCode l z_569 0 re_723) (va_cwS 3 hts gX4_readTest_X4_testCode rfl rfl rfl (by decide +kernel) ⟨Nat.le_of_ble_eq_true rfl, Nat.le_of_ble_eq_true rfl⟩) ⟨fun a U g mk q => q, fun U hU hW => ⟨rfl, trivial⟩⟩ rfl rfl hl.1 rfl (lv_room (Nat.le_of_ble_eq_true rfl)) dX4_readTest_118 ⟨Nat.le_of_ble_eq_true rfl, Nat.le_of_ble_eq_true rfl⟩) (fun r_745 k_746 => ?_)
        have hFc := free_all hD hS hA
        refine va_callv (va_runV (As := [.int r_745]) (rest := []) ⟨hx, hb, hml, hown, hts⟩ (r_addCode l D ws_689 ty_690 adK adV fo rd krd tp ktp cd bb tl r_745 H.size (⟨ts_716, te_717, cc_718, ra_719, rb_720, rc_721, rv_722, re_723, ya_724, by omega, by omega, by omega, by omega, er_729, et_730, ⟨k_731, c9_732, t_733, f_734, e_735, u_736⟩, ⟨k_737, c9_738, t_739, f_740, e_741, u_742⟩⟩ : RS ws_689 ty_690 rd krd tp ktp cd bb tl)) (cwV 1 hts gX4_readTest_X4_addCode rfl rfl rfl (by decide +kernel) ⟨Nat.le_of_ble_eq_true rfl, Nat.le_of_ble_eq_true rfl⟩) ⟨fun a U g mk q => by obtain ⟨q0, q1, qP, qK, qD, qS⟩ := q; exact ⟨q0, q1, qP, va_K.moved (u := U) (U := U.calling g mk a) (Vm.Alike.refl U.vm) qK, qD, SZ.same rfl rfl qS⟩, va_recv hK hP (ci := 4) (q0 := krd) rfl er_729, fun U hU hW => ⟨rfl, by rw [hU], by rw [hU]; exact hP, va_K.moved hW.alike hK, hD.weaken (fun _ _ _ _ => trivial), hsz9.go hS hW hU hFc⟩⟩ rfl rfl hl.1 rfl (lv_room (Nat.le_of_ble_eq_true rfl)) dX4_readTest_121 ⟨Nat.le_of_ble_eq_true rfl, Nat.le_of_ble_eq_true rfl⟩) hS (fun q _ h => hFc q h) hFc (fun u t H1 locs ht hvm w_748 hB hz1 hk1 hS => ?_)
        obtain ⟨ws_749, ty_750, hm_751, ht_753, hP1, hK1, hD1, hx_752⟩ := hB
        rw [ht] at hP1
        have hK := va_K.moved hvm.symm hK1
        have hD := hD1.weaken (fun _ _ _ h => hFc _ h)
        generalize H1 = H at hP1 hS ⊢
        have hP := hP1
        obtain ⟨g_755, e_754, h_756⟩ := hm_751.obj er_729
        obtain ⟨z_757, z_758, z_759, z_760, z_761, z_762, rfl⟩ := smX4 h_756
        obtain ⟨g_764, e_763, h_765⟩ := hm_751.obj et_730
        obtain ⟨z_766, z_767, z_768, z_769, rfl⟩ := smX6 h_765
        obtain ⟨f_771, e_770⟩ := hm_751.arrI e_735
        have u_772 := ht_753 _ _ u_736
        obtain ⟨f_774, e_773⟩ := hm_751.arrI e_741
        have u_775 := ht_753 _ _ u_742
        have hsm := hsm.tr (hm_751.mono (by decide))
        have htx := htx.tr ht_753
        obtain ⟨ts_776, te_777, cc_778, ra_779, rb_780, rc_781, rv_782, re_783, ya_784, h1_785, h2_786, h3_787, h4_788, er_789, et_790, ⟨k_791, c9_792, t_793, f_794, e_795, u_796⟩, ⟨k_797, c9_798, t_799, f_800, e_801, u_802⟩⟩ := id hx_752
        refine lv_iconst (v := 1) hx hb dX4_readTest_124 (by decide) ?_
        exact W.zret (v := 1) hx hb hr rfl (fun t ht hW => ⟨⟨1, (), rfl, Or.inr rfl, ws_749, ty_750, hsm, htx, by rw [ht]; exact hP, va_K.moved hW.alike hK, hD, (⟨ts_776, te_777, cc_778, ra_779, rb_780, rc_781, rv_782, re_783, ya_784, by omega, by omega, by omega, by omega, er_789, et_790, ⟨k_791, c9_792, t_793, f_794, e_795, u_796⟩, ⟨k_797, c9_798, t_799, f_800, e_801, u_802⟩⟩ : RS ws_749 ty_750 rd krd tp ktp cd bb tl)⟩, hS.F ht⟩) hS.2.2 dX4_readTest_125
      refine lv_istore_n (lv' := [(2, .int 1), (1, .int z_569), (0, .ref rd)]) hx hb dX4_readTest_70 rfl hl (by decide) rfl (fun ls hl => ?_)
      refine lv_iload_n hx hb dX4_readTest_71 rfl (lv_at hl 0 rfl) ?_
      refine lv_if_ne (tgt := 92) hx hb dX4_readTest_72 (by decide) (fun c_803 => ?_) (fun c_803 => absurd c_803 (by decide))
      refine lv_aload_n hx hb dX4_readTest_92 rfl (lv_at hl 2 rfl) ?_
      refine va_get (D := D) (ci := 4) (v := .ref tp) (C := RX4) (T := TX4) (N := 8) hx hb hts hin4 hown hK hP krd e_577 rfl 0 (by decide) (hts (.fieldLink RX4 12 "HoneyHouse$RuleReader" "tape" "LHoneyHouse$Tape;") (List.mem_of_getElem? (i := 1) rfl)) (fun _ h9 => h9) rfl dX4_readTest_93 ?_
      have hFc := free_all hD hS hA
      refine va_callv (va_runV (As := []) (rest := []) ⟨hx, hb, hml, hown, hts⟩ (a_advance l D ws_572 ty_573 tp ktp tl te_541 ya_548 (nI ts_540) bb k_561 c9_562 t_563 f_583 H.size (by omega) (by omega) e_578 e_582 u_584) (cwV 0 hts gX4_readTest_X6_advance rfl rfl rfl (by decide +kernel) ⟨Nat.le_of_ble_eq_true rfl, Nat.le_of_ble_eq_true rfl⟩) ⟨fun a U g mk q => by obtain ⟨q0, q1, qP, qK, qD⟩ := q; exact ⟨q0, q1, qP, va_K.moved (u := U) (U := U.calling g mk a) (Vm.Alike.refl U.vm) qK, qD⟩, va_recv hK hP (ci := 6) (q0 := ktp) rfl e_578, fun U hU hW => ⟨rfl, by rw [hU], by rw [hU]; exact hP, va_K.moved hW.alike hK, hD.weaken (fun _ _ _ _ => trivial)⟩⟩ rfl rfl hl.1 rfl (lv_room (Nat.le_of_ble_eq_true rfl)) dX4_readTest_96 ⟨Nat.le_of_ble_eq_true rfl, Nat.le_of_ble_eq_true rfl⟩) hS (fun q _ h => hFc q h) hFc (fun u t H1 locs ht hvm w_805 hB hz1 hk1 hS => ?_)
      obtain ⟨ws_806, ty_807, hm_808, ht_810, hP1, hK1, hD1, hx_809⟩ := hB
      rw [ht] at hP1
      have hK := va_K.moved hvm.symm hK1
      have hD := hD1.weaken (fun _ _ _ h => hFc _ h)
      generalize H1 = H at hP1 hS ⊢
      have hP := hP1
      have e_811 := hm_808.objK e_577 (by decide)
      obtain ⟨g_813, e_812, h_814⟩ := hm_808.obj e_578
      obtain ⟨z_815, z_816, z_817, z_818, rfl⟩ := smX6 h_814
      obtain ⟨f_820, e_819⟩ := hm_808.arrI e_579
      have u_821 := ht_810 _ _ u_581
      obtain ⟨f_823, e_822⟩ := hm_808.arrI e_582
      have u_824 := ht_810 _ _ u_584
      have hsm := hsm.tr (hm_808.mono (by decide))
      have htx := htx.tr ht_810
      obtain ⟨k_825, s_826, e_827, h_828, h_829, h_830, e_831⟩ := hx_809
      refine lv_aload_n hx hb dX4_readTest_99 rfl (lv_at hl 2 rfl) ?_
      refine lv_sipush (v := 1000) hx hb dX4_readTest_100 (by decide) ?_
      have hFc := free_all hD hS hA
      refine va_calli (va_runV (As := [.int 1000]) (rest := []) ⟨hx, hb, hml, hown, hts⟩ (r_readNumber l D ws_806 ty_807 adK adV fo rd krd tp ktp cd bb tl 1000 H.size (⟨s_826, e_827, cc_542, ra_543, rb_544, rc_545, rv_546, re_547, nI k_825, by omega, by omega, by omega, by omega, e_811, e_831, ⟨k_555, c9_556, t_557, f_820, e_819, u_821⟩, ⟨k_561, c9_562, t_563, f_823, e_822, u_824⟩⟩ : RS ws_806 ty_807 rd krd tp ktp cd bb tl)) (cwV 1 hts gX4_readTest_X4_readNumber rfl rfl rfl (by decide +kernel) ⟨Nat.le_of_ble_eq_true rfl, Nat.le_of_ble_eq_true rfl⟩) ⟨fun a U g mk q => by obtain ⟨q0, q1, qP, qK, qD, qS⟩ := q; exact ⟨q0, q1, qP, va_K.moved (u := U) (U := U.calling g mk a) (Vm.Alike.refl U.vm) qK, qD, SZ.same rfl rfl qS⟩, va_recv hK hP (ci := 4) (q0 := krd) rfl e_811, fun U hU hW => ⟨rfl, by rw [hU], by rw [hU]; exact hP, va_K.moved hW.alike hK, hD.weaken (fun _ _ _ _ => trivial), hsz9.go hS hW hU hFc⟩⟩ rfl rfl hl.1 rfl (lv_room (Nat.le_of_ble_eq_true rfl)) dX4_readTest_103 ⟨Nat.le_of_ble_eq_true rfl, Nat.le_of_ble_eq_true rfl⟩) hS (fun q _ h => hFc q h) hFc (fun r_832 u t H1 locs ht hvm w_833 hB hz1 hk1 hS => ?_)
      obtain ⟨ws_834, ty_835, hm_836, ht_838, hP1, hK1, hD1, hx_837⟩ := hB
      rw [ht] at hP1
      have hK := va_K.moved hvm.symm hK1
      have hD := hD1.weaken (fun _ _ _ h => hFc _ h)
      generalize H1 = H at hP1 hS ⊢
      have hP := hP1
      obtain ⟨g_840, e_839, h_841⟩ := hm_836.obj e_811
      obtain ⟨z_842, z_843, z_844, z_845, z_846, z_847, rfl⟩ := smX4 h_841
      obtain ⟨g_849, e_848, h_850⟩ := hm_836.obj e_831
      obtain ⟨z_851, z_852, z_853, z_854, rfl⟩ := smX6 h_850
      obtain ⟨f_856, e_855⟩ := hm_836.arrI e_819
      have u_857 := ht_838 _ _ u_821
      obtain ⟨f_859, e_858⟩ := hm_836.arrI e_822
      have u_860 := ht_838 _ _ u_824
      have hsm := hsm.tr (hm_836.mono (by decide))
      have htx := htx.tr ht_838
      obtain ⟨ts_861, te_862, cc_863, ra_864, rb_865, rc_866, rv_867, re_868, ya_869, h1_870, h2_871, h3_872, h4_873, er_874, et_875, ⟨k_876, c9_877, t_878, f_879, e_880, u_881⟩, ⟨k_882, c9_883, t_884, f_885, e_886, u_887⟩⟩ := id hx_837
      rcases w_833 with rfl | rfl
      · refine lv_if_ne (tgt := 111) hx hb dX4_readTest_106 (by decide) (fun c_888 => absurd (by decide) c_888) (fun c_888 => ?_)
        refine lv_iconst (v := 0) hx hb dX4_readTest_109 (by decide) ?_
        exact W.zret (v := 0) hx hb hr rfl (fun t ht hW => ⟨⟨0, (), rfl, Or.inl rfl, ws_834, ty_835, hsm, htx, by rw [ht]; exact hP, va_K.moved hW.alike hK, hD, (⟨ts_861, te_862, cc_863, ra_864, rb_865, rc_866, rv_867, re_868, ya_869, by omega, by omega, by omega, by omega, er_874, et_875, ⟨k_876, c9_877, t_878, f_879, e_880, u_881⟩, ⟨k_882, c9_883, t_884, f_885, e_886, u_887⟩⟩ : RS ws_834 ty_835 rd krd tp ktp cd bb tl)⟩, hS.F ht⟩) hS.2.2 dX4_readTest_110
      refine lv_if_ne (tgt := 111) hx hb dX4_readTest_106 (by decide) (fun c_889 => ?_) (fun c_889 => absurd c_889 (by decide))
      refine lv_aload_n hx hb dX4_readTest_111 rfl (lv_at hl 2 rfl) ?_
      refine lv_iload_n hx hb dX4_readTest_112 rfl (lv_at hl 1 rfl) ?_
      refine lv_iload_n hx hb dX4_readTest_113 rfl (lv_at hl 0 rfl) ?_
      refine lv_aload_n hx hb dX4_readTest_114 rfl (lv_at hl 2 rfl) ?_
      refine va_get (D := D) (ci := 4) (v := .int re_868) (C := RX4) (T := TX4) (N := 8) hx hb hts hin4 hown hK hP krd er_874 rfl 7 (by decide) (hts (.fieldLink RX4 56 "HoneyHouse$RuleReader" "value" "I") (List.mem_of_getElem? (i := 2) rfl)) (fun _ h9 => h9) rfl dX4_readTest_115 ?_
      refine vp_callSi (W.runS (As := [.int z_569, .int 1, .int re_868]) (rest := [.ref rd]) ⟨hx, hb, hml, hown, hts⟩ (s_testCode l z_569 1 re_868) (va_cwS 3 hts gX4_readTest_X4_testCode rfl rfl rfl (by decide +kernel) ⟨Nat.le_of_ble_eq_true rfl, Nat.le_of_ble_eq_true rfl⟩) ⟨fun a U g mk q => q, fun U hU hW => ⟨rfl, trivial⟩⟩ rfl rfl hl.1 rfl (lv_room (Nat.le_of_ble_eq_true rfl)) dX4_readTest_118 ⟨Nat.le_of_ble_eq_true rfl, Nat.le_of_ble_eq_true rfl⟩) (fun r_890 k_891 => ?_)
      have hFc := free_all hD hS hA
      refine va_callv (va_runV (As := [.int r_890]) (rest := []) ⟨hx, hb, hml, hown, hts⟩ (r_addCode l D ws_834 ty_835 adK adV fo rd krd tp ktp cd bb tl r_890 H.size (⟨ts_861, te_862, cc_863, ra_864, rb_865, rc_866, rv_867, re_868, ya_869, by omega, by omega, by omega, by omega, er_874, et_875, ⟨k_876, c9_877, t_878, f_879, e_880, u_881⟩, ⟨k_882, c9_883, t_884, f_885, e_886, u_887⟩⟩ : RS ws_834 ty_835 rd krd tp ktp cd bb tl)) (cwV 1 hts gX4_readTest_X4_addCode rfl rfl rfl (by decide +kernel) ⟨Nat.le_of_ble_eq_true rfl, Nat.le_of_ble_eq_true rfl⟩) ⟨fun a U g mk q => by obtain ⟨q0, q1, qP, qK, qD, qS⟩ := q; exact ⟨q0, q1, qP, va_K.moved (u := U) (U := U.calling g mk a) (Vm.Alike.refl U.vm) qK, qD, SZ.same rfl rfl qS⟩, va_recv hK hP (ci := 4) (q0 := krd) rfl er_874, fun U hU hW => ⟨rfl, by rw [hU], by rw [hU]; exact hP, va_K.moved hW.alike hK, hD.weaken (fun _ _ _ _ => trivial), hsz9.go hS hW hU hFc⟩⟩ rfl rfl hl.1 rfl (lv_room (Nat.le_of_ble_eq_true rfl)) dX4_readTest_121 ⟨Nat.le_of_ble_eq_true rfl, Nat.le_of_ble_eq_true rfl⟩) hS (fun q _ h => hFc q h) hFc (fun u t H1 locs ht hvm w_893 hB hz1 hk1 hS => ?_)
      obtain ⟨ws_894, ty_895, hm_896, ht_898, hP1, hK1, hD1, hx_897⟩ := hB
      rw [ht] at hP1
      have hK := va_K.moved hvm.symm hK1
      have hD := hD1.weaken (fun _ _ _ h => hFc _ h)
      generalize H1 = H at hP1 hS ⊢
      have hP := hP1
      obtain ⟨g_900, e_899, h_901⟩ := hm_896.obj er_874
      obtain ⟨z_902, z_903, z_904, z_905, z_906, z_907, rfl⟩ := smX4 h_901
      obtain ⟨g_909, e_908, h_910⟩ := hm_896.obj et_875
      obtain ⟨z_911, z_912, z_913, z_914, rfl⟩ := smX6 h_910
      obtain ⟨f_916, e_915⟩ := hm_896.arrI e_880
      have u_917 := ht_898 _ _ u_881
      obtain ⟨f_919, e_918⟩ := hm_896.arrI e_886
      have u_920 := ht_898 _ _ u_887
      have hsm := hsm.tr (hm_896.mono (by decide))
      have htx := htx.tr ht_898
      obtain ⟨ts_921, te_922, cc_923, ra_924, rb_925, rc_926, rv_927, re_928, ya_929, h1_930, h2_931, h3_932, h4_933, er_934, et_935, ⟨k_936, c9_937, t_938, f_939, e_940, u_941⟩, ⟨k_942, c9_943, t_944, f_945, e_946, u_947⟩⟩ := id hx_897
      refine lv_iconst (v := 1) hx hb dX4_readTest_124 (by decide) ?_
      exact W.zret (v := 1) hx hb hr rfl (fun t ht hW => ⟨⟨1, (), rfl, Or.inr rfl, ws_894, ty_895, hsm, htx, by rw [ht]; exact hP, va_K.moved hW.alike hK, hD, (⟨ts_921, te_922, cc_923, ra_924, rb_925, rc_926, rv_927, re_928, ya_929, by omega, by omega, by omega, by omega, er_934, et_935, ⟨k_936, c9_937, t_938, f_939, e_940, u_941⟩, ⟨k_942, c9_943, t_944, f_945, e_946, u_947⟩⟩ : RS ws_894 ty_895 rd krd tp ktp cd bb tl)⟩, hS.F ht⟩) hS.2.2 dX4_readTest_125
    refine lv_iload_n hx hb dX4_readTest_28 rfl (lv_at hl 0 rfl) ?_
    refine lv_bipush (v := 30) hx hb dX4_readTest_29 (by decide) ?_
    refine lv_icmp_ne (tgt := 61) hx hb dX4_readTest_31 (by decide) (fun c_948 => ?_) (fun c_948 => ?_)
    · refine lv_aload_n hx hb dX4_readTest_61 rfl (lv_at hl 1 rfl) ?_
      refine va_get (D := D) (ci := 4) (v := .ref tp) (C := RX4) (T := TX4) (N := 8) hx hb hts hin4 hown hK hP krd e_51 rfl 0 (by decide) (hts (.fieldLink RX4 12 "HoneyHouse$RuleReader" "tape" "LHoneyHouse$Tape;") (List.mem_of_getElem? (i := 1) rfl)) (fun _ h9 => h9) rfl dX4_readTest_62 ?_
      refine va_ldcS hx hb hown hsz9.2.2.2.2.2.2.2.2.1 dX4_readTest_65 ?_
      have hFc := free_all hD hS hA
      refine va_calli (va_runV (As := [.ref (adK 5)]) (rest := []) ⟨hx, hb, hml, hown, hts⟩ (a_isWord l D ws_46 ty_47 adK adV fo 5 tp ktp tl (nI k_65) (nI s_66) (nI e_67) bb k_22 c9_23 t_24 f_63 H.size (by decide) e_71 e_62 u_64) (cwV 1 hts gX4_readTest_X6_isWord rfl rfl rfl (by decide +kernel) ⟨Nat.le_of_ble_eq_true rfl, Nat.le_of_ble_eq_true rfl⟩) ⟨fun a U g mk q => by obtain ⟨q0, q1, qP, qK, qD, qS⟩ := q; exact ⟨q0, q1, qP, va_K.moved (u := U) (U := U.calling g mk a) (Vm.Alike.refl U.vm) qK, qD, SZ.same rfl rfl qS⟩, va_recv hK hP (ci := 6) (q0 := ktp) rfl e_71, fun U hU hW => ⟨rfl, by rw [hU], by rw [hU]; exact hP, va_K.moved hW.alike hK, hD.weaken (fun _ _ _ _ => trivial), hsz9.go hS hW hU hFc⟩⟩ rfl rfl hl.1 rfl (lv_room (Nat.le_of_ble_eq_true rfl)) dX4_readTest_67 ⟨Nat.le_of_ble_eq_true rfl, Nat.le_of_ble_eq_true rfl⟩) hS (fun q _ h => hFc q h) hFc (fun r_949 u t H1 locs ht hvm w_950 hB hz1 hk1 hS => ?_)
      obtain ⟨ws_951, ty_952, hm_953, ht_955, hP1, hK1, hD1, hx_954⟩ := hB
      rw [ht] at hP1
      have hK := va_K.moved hvm.symm hK1
      have hD := hD1.weaken (fun _ _ _ h => hFc _ h)
      generalize H1 = H at hP1 hS ⊢
      have hP := hP1
      have e_956 := hm_953.objK e_51 (by decide)
      have e_957 := hm_953.objK e_71 (by decide)
      obtain ⟨f_959, e_958⟩ := hm_953.arrI e_59
      have u_960 := ht_955 _ _ u_61
      obtain ⟨f_962, e_961⟩ := hm_953.arrI e_62
      have u_963 := ht_955 _ _ u_64
      have hsm := hsm.tr (hm_953.mono (by decide))
      have htx := htx.tr ht_955
      rcases w_950 with rfl | rfl
      · refine lv_istore_n (lv' := [(2, .int 0), (1, .int r_28), (0, .ref rd)]) hx hb dX4_readTest_70 rfl hl (by decide) rfl (fun ls hl => ?_)
        refine lv_iload_n hx hb dX4_readTest_71 rfl (lv_at hl 0 rfl) ?_
        refine lv_if_ne (tgt := 92) hx hb dX4_readTest_72 (by decide) (fun c_964 => absurd (by decide) c_964) (fun c_964 => ?_)
        refine lv_aload_n hx hb dX4_readTest_75 rfl (lv_at hl 2 rfl) ?_
        refine va_get (D := D) (ci := 4) (v := .ref tp) (C := RX4) (T := TX4) (N := 8) hx hb hts hin4 hown hK hP krd e_956 rfl 0 (by decide) (hts (.fieldLink RX4 12 "HoneyHouse$RuleReader" "tape" "LHoneyHouse$Tape;") (List.mem_of_getElem? (i := 1) rfl)) (fun _ h9 => h9) rfl dX4_readTest_76 ?_
        refine va_ldcS hx hb hown hsz9.2.2.2.2.2.2.2.1 dX4_readTest_79 ?_
        have hFc := free_all hD hS hA
        refine va_calli (va_runV (As := [.ref (adK 4)]) (rest := []) ⟨hx, hb, hml, hown, hts⟩ (a_isWord l D ws_951 ty_952 adK adV fo 4 tp ktp tl (nI k_65) (nI s_66) (nI e_67) bb k_22 c9_23 t_24 f_962 H.size (by decide) e_957 e_961 u_963) (cwV 1 hts gX4_readTest_X6_isWord rfl rfl rfl (by decide +kernel) ⟨Nat.le_of_ble_eq_true rfl, Nat.le_of_ble_eq_true rfl⟩) ⟨fun a U g mk q => by obtain ⟨q0, q1, qP, qK, qD, qS⟩ := q; exact ⟨q0, q1, qP, va_K.moved (u := U) (U := U.calling g mk a) (Vm.Alike.refl U.vm) qK, qD, SZ.same rfl rfl qS⟩, va_recv hK hP (ci := 6) (q0 := ktp) rfl e_957, fun U hU hW => ⟨rfl, by rw [hU], by rw [hU]; exact hP, va_K.moved hW.alike hK, hD.weaken (fun _ _ _ _ => trivial), hsz9.go hS hW hU hFc⟩⟩ rfl rfl hl.1 rfl (lv_room (Nat.le_of_ble_eq_true rfl)) dX4_readTest_81 ⟨Nat.le_of_ble_eq_true rfl, Nat.le_of_ble_eq_true rfl⟩) hS (fun q _ h => hFc q h) hFc (fun r_965 u t H1 locs ht hvm w_966 hB hz1 hk1 hS => ?_)
        obtain ⟨ws_967, ty_968, hm_969, ht_971, hP1, hK1, hD1, hx_970⟩ := hB
        rw [ht] at hP1
        have hK := va_K.moved hvm.symm hK1
        have hD := hD1.weaken (fun _ _ _ h => hFc _ h)
        generalize H1 = H at hP1 hS ⊢
        have hP := hP1
        have e_972 := hm_969.objK e_956 (by decide)
        have e_973 := hm_969.objK e_957 (by decide)
        obtain ⟨f_975, e_974⟩ := hm_969.arrI e_958
        have u_976 := ht_971 _ _ u_960
        obtain ⟨f_978, e_977⟩ := hm_969.arrI e_961
        have u_979 := ht_971 _ _ u_963
        have hsm := hsm.tr (hm_969.mono (by decide))
        have htx := htx.tr ht_971
        rcases w_966 with rfl | rfl
        · refine lv_if_ne (tgt := 92) hx hb dX4_readTest_84 (by decide) (fun c_980 => absurd (by decide) c_980) (fun c_980 => ?_)
          refine lv_aload_n hx hb dX4_readTest_87 rfl (lv_at hl 2 rfl) ?_
          have hFc := free_all hD hS hA
          refine va_calli (va_runV (As := []) (rest := []) ⟨hx, hb, hml, hown, hts⟩ (r_failHere l D ws_967 ty_968 adK adV fo rd krd tp ktp cd bb tl  H.size (⟨s_66, e_67, cc_3, ra_4, rb_5, rc_6, rv_7, re_8, nI k_65, by omega, by omega, by omega, by omega, e_972, e_973, ⟨k_16, c9_17, t_18, f_975, e_974, u_976⟩, ⟨k_22, c9_23, t_24, f_978, e_977, u_979⟩⟩ : RS ws_967 ty_968 rd krd tp ktp cd bb tl)) (cwV 0 hts gX4_readTest_X4_failHere rfl rfl rfl (by decide +kernel) ⟨Nat.le_of_ble_eq_true rfl, Nat.le_of_ble_eq_true rfl⟩) ⟨fun a U g mk q => by obtain ⟨q0, q1, qP, qK, qD, qS⟩ := q; exact ⟨q0, q1, qP, va_K.moved (u := U) (U := U.calling g mk a) (Vm.Alike.refl U.vm) qK, qD, SZ.same rfl rfl qS⟩, va_recv hK hP (ci := 4) (q0 := krd) rfl e_972, fun U hU hW => ⟨rfl, by rw [hU], by rw [hU]; exact hP, va_K.moved hW.alike hK, hD.weaken (fun _ _ _ _ => trivial), hsz9.go hS hW hU hFc⟩⟩ rfl rfl hl.1 rfl (lv_room (Nat.le_of_ble_eq_true rfl)) dX4_readTest_88 ⟨Nat.le_of_ble_eq_true rfl, Nat.le_of_ble_eq_true rfl⟩) hS (fun q _ h => hFc q h) hFc (fun r_981 u t H1 locs ht hvm w_982 hB hz1 hk1 hS => ?_)
          obtain ⟨ws_983, ty_984, hm_985, ht_987, hP1, hK1, hD1, hx_986⟩ := hB
          rw [ht] at hP1
          have hK := va_K.moved hvm.symm hK1
          have hD := hD1.weaken (fun _ _ _ h => hFc _ h)
          generalize H1 = H at hP1 hS ⊢
          have hP := hP1
          obtain ⟨g_989, e_988, h_990⟩ := hm_985.obj e_972
          obtain ⟨z_991, z_992, z_993, z_994, z_995, z_996, rfl⟩ := smX4 h_990
          obtain ⟨g_998, e_997, h_999⟩ := hm_985.obj e_973
          obtain ⟨z_1000, z_1001, z_1002, z_1003, rfl⟩ := smX6 h_999
          obtain ⟨f_1005, e_1004⟩ := hm_985.arrI e_974
          have u_1006 := ht_987 _ _ u_976
          obtain ⟨f_1008, e_1007⟩ := hm_985.arrI e_977
          have u_1009 := ht_987 _ _ u_979
          have hsm := hsm.tr (hm_985.mono (by decide))
          have htx := htx.tr ht_987
          obtain ⟨ts_1010, te_1011, cc_1012, ra_1013, rb_1014, rc_1015, rv_1016, re_1017, ya_1018, h1_1019, h2_1020, h3_1021, h4_1022, er_1023, et_1024, ⟨k_1025, c9_1026, t_1027, f_1028, e_1029, u_1030⟩, ⟨k_1031, c9_1032, t_1033, f_1034, e_1035, u_1036⟩⟩ := id hx_986
          subst w_982
          exact W.zret (v := 0) hx hb hr rfl (fun t ht hW => ⟨⟨0, (), rfl, Or.inl rfl, ws_983, ty_984, hsm, htx, by rw [ht]; exact hP, va_K.moved hW.alike hK, hD, (⟨ts_1010, te_1011, cc_1012, ra_1013, rb_1014, rc_1015, rv_1016, re_1017, ya_1018, by omega, by omega, by omega, by omega, er_1023, et_1024, ⟨k_1025, c9_1026, t_1027, f_1028, e_1029, u_1030⟩, ⟨k_1031, c9_1032, t_1033, f_1034, e_1035, u_1036⟩⟩ : RS ws_983 ty_984 rd krd tp ktp cd bb tl)⟩, hS.F ht⟩) hS.2.2 dX4_readTest_91
        refine lv_if_ne (tgt := 92) hx hb dX4_readTest_84 (by decide) (fun c_1037 => ?_) (fun c_1037 => absurd c_1037 (by decide))
        refine lv_aload_n hx hb dX4_readTest_92 rfl (lv_at hl 2 rfl) ?_
        refine va_get (D := D) (ci := 4) (v := .ref tp) (C := RX4) (T := TX4) (N := 8) hx hb hts hin4 hown hK hP krd e_972 rfl 0 (by decide) (hts (.fieldLink RX4 12 "HoneyHouse$RuleReader" "tape" "LHoneyHouse$Tape;") (List.mem_of_getElem? (i := 1) rfl)) (fun _ h9 => h9) rfl dX4_readTest_93 ?_
        have hFc := free_all hD hS hA
        refine va_callv (va_runV (As := []) (rest := []) ⟨hx, hb, hml, hown, hts⟩ (a_advance l D ws_967 ty_968 tp ktp tl e_67 (nI k_65) (nI s_66) bb k_22 c9_23 t_24 f_978 H.size (by omega) (by omega) e_973 e_977 u_979) (cwV 0 hts gX4_readTest_X6_advance rfl rfl rfl (by decide +kernel) ⟨Nat.le_of_ble_eq_true rfl, Nat.le_of_ble_eq_true rfl⟩) ⟨fun a U g mk q => by obtain ⟨q0, q1, qP, qK, qD⟩ := q; exact ⟨q0, q1, qP, va_K.moved (u := U) (U := U.calling g mk a) (Vm.Alike.refl U.vm) qK, qD⟩, va_recv hK hP (ci := 6) (q0 := ktp) rfl e_973, fun U hU hW => ⟨rfl, by rw [hU], by rw [hU]; exact hP, va_K.moved hW.alike hK, hD.weaken (fun _ _ _ _ => trivial)⟩⟩ rfl rfl hl.1 rfl (lv_room (Nat.le_of_ble_eq_true rfl)) dX4_readTest_96 ⟨Nat.le_of_ble_eq_true rfl, Nat.le_of_ble_eq_true rfl⟩) hS (fun q _ h => hFc q h) hFc (fun u t H1 locs ht hvm w_1039 hB hz1 hk1 hS => ?_)
        obtain ⟨ws_1040, ty_1041, hm_1042, ht_1044, hP1, hK1, hD1, hx_1043⟩ := hB
        rw [ht] at hP1
        have hK := va_K.moved hvm.symm hK1
        have hD := hD1.weaken (fun _ _ _ h => hFc _ h)
        generalize H1 = H at hP1 hS ⊢
        have hP := hP1
        have e_1045 := hm_1042.objK e_972 (by decide)
        obtain ⟨g_1047, e_1046, h_1048⟩ := hm_1042.obj e_973
        obtain ⟨z_1049, z_1050, z_1051, z_1052, rfl⟩ := smX6 h_1048
        obtain ⟨f_1054, e_1053⟩ := hm_1042.arrI e_974
        have u_1055 := ht_1044 _ _ u_976
        obtain ⟨f_1057, e_1056⟩ := hm_1042.arrI e_977
        have u_1058 := ht_1044 _ _ u_979
        have hsm := hsm.tr (hm_1042.mono (by decide))
        have htx := htx.tr ht_1044
        obtain ⟨k_1059, s_1060, e_1061, h_1062, h_1063, h_1064, e_1065⟩ := hx_1043
        refine lv_aload_n hx hb dX4_readTest_99 rfl (lv_at hl 2 rfl) ?_
        refine lv_sipush (v := 1000) hx hb dX4_readTest_100 (by decide) ?_
        have hFc := free_all hD hS hA
        refine va_calli (va_runV (As := [.int 1000]) (rest := []) ⟨hx, hb, hml, hown, hts⟩ (r_readNumber l D ws_1040 ty_1041 adK adV fo rd krd tp ktp cd bb tl 1000 H.size (⟨s_1060, e_1061, cc_3, ra_4, rb_5, rc_6, rv_7, re_8, nI k_1059, by omega, by omega, by omega, by omega, e_1045, e_1065, ⟨k_16, c9_17, t_18, f_1054, e_1053, u_1055⟩, ⟨k_22, c9_23, t_24, f_1057, e_1056, u_1058⟩⟩ : RS ws_1040 ty_1041 rd krd tp ktp cd bb tl)) (cwV 1 hts gX4_readTest_X4_readNumber rfl rfl rfl (by decide +kernel) ⟨Nat.le_of_ble_eq_true rfl, Nat.le_of_ble_eq_true rfl⟩) ⟨fun a U g mk q => by obtain ⟨q0, q1, qP, qK, qD, qS⟩ := q; exact ⟨q0, q1, qP, va_K.moved (u := U) (U := U.calling g mk a) (Vm.Alike.refl U.vm) qK, qD, SZ.same rfl rfl qS⟩, va_recv hK hP (ci := 4) (q0 := krd) rfl e_1045, fun U hU hW => ⟨rfl, by rw [hU], by rw [hU]; exact hP, va_K.moved hW.alike hK, hD.weaken (fun _ _ _ _ => trivial), hsz9.go hS hW hU hFc⟩⟩ rfl rfl hl.1 rfl (lv_room (Nat.le_of_ble_eq_true rfl)) dX4_readTest_103 ⟨Nat.le_of_ble_eq_true rfl, Nat.le_of_ble_eq_true rfl⟩) hS (fun q _ h => hFc q h) hFc (fun r_1066 u t H1 locs ht hvm w_1067 hB hz1 hk1 hS => ?_)
        obtain ⟨ws_1068, ty_1069, hm_1070, ht_1072, hP1, hK1, hD1, hx_1071⟩ := hB
        rw [ht] at hP1
        have hK := va_K.moved hvm.symm hK1
        have hD := hD1.weaken (fun _ _ _ h => hFc _ h)
        generalize H1 = H at hP1 hS ⊢
        have hP := hP1
        obtain ⟨g_1074, e_1073, h_1075⟩ := hm_1070.obj e_1045
        obtain ⟨z_1076, z_1077, z_1078, z_1079, z_1080, z_1081, rfl⟩ := smX4 h_1075
        obtain ⟨g_1083, e_1082, h_1084⟩ := hm_1070.obj e_1065
        obtain ⟨z_1085, z_1086, z_1087, z_1088, rfl⟩ := smX6 h_1084
        obtain ⟨f_1090, e_1089⟩ := hm_1070.arrI e_1053
        have u_1091 := ht_1072 _ _ u_1055
        obtain ⟨f_1093, e_1092⟩ := hm_1070.arrI e_1056
        have u_1094 := ht_1072 _ _ u_1058
        have hsm := hsm.tr (hm_1070.mono (by decide))
        have htx := htx.tr ht_1072
        obtain ⟨ts_1095, te_1096, cc_1097, ra_1098, rb_1099, rc_1100, rv_1101, re_1102, ya_1103, h1_1104, h2_1105, h3_1106, h4_1107, er_1108, et_1109, ⟨k_1110, c9_1111, t_1112, f_1113, e_1114, u_1115⟩, ⟨k_1116, c9_1117, t_1118, f_1119, e_1120, u_1121⟩⟩ := id hx_1071
        rcases w_1067 with rfl | rfl
        · refine lv_if_ne (tgt := 111) hx hb dX4_readTest_106 (by decide) (fun c_1122 => absurd (by decide) c_1122) (fun c_1122 => ?_)
          refine lv_iconst (v := 0) hx hb dX4_readTest_109 (by decide) ?_
          exact W.zret (v := 0) hx hb hr rfl (fun t ht hW => ⟨⟨0, (), rfl, Or.inl rfl, ws_1068, ty_1069, hsm, htx, by rw [ht]; exact hP, va_K.moved hW.alike hK, hD, (⟨ts_1095, te_1096, cc_1097, ra_1098, rb_1099, rc_1100, rv_1101, re_1102, ya_1103, by omega, by omega, by omega, by omega, er_1108, et_1109, ⟨k_1110, c9_1111, t_1112, f_1113, e_1114, u_1115⟩, ⟨k_1116, c9_1117, t_1118, f_1119, e_1120, u_1121⟩⟩ : RS ws_1068 ty_1069 rd krd tp ktp cd bb tl)⟩, hS.F ht⟩) hS.2.2 dX4_readTest_110
        refine lv_if_ne (tgt := 111) hx hb dX4_readTest_106 (by decide) (fun c_1123 => ?_) (fun c_1123 => absurd c_1123 (by decide))
        refine lv_aload_n hx hb dX4_readTest_111 rfl (lv_at hl 2 rfl) ?_
        refine lv_iload_n hx hb dX4_readTest_112 rfl (lv_at hl 1 rfl) ?_
        refine lv_iload_n hx hb dX4_readTest_113 rfl (lv_at hl 0 rfl) ?_
        refine lv_aload_n hx hb dX4_readTest_114 rfl (lv_at hl 2 rfl) ?_
        refine va_get (D := D) (ci := 4) (v := .int re_1102) (C := RX4) (T := TX4) (N := 8) hx hb hts hin4 hown hK hP krd er_1108 rfl 7 (by decide) (hts (.fieldLink RX4 56 "HoneyHouse$RuleReader" "value" "I") (List.mem_of_getElem? (i := 2) rfl)) (fun _ h9 => h9) rfl dX4_readTest_115 ?_
        refine vp_callSi (W.runS (As := [.int r_28, .int 0, .int re_1102]) (rest := [.ref rd]) ⟨hx, hb, hml, hown, hts⟩ (s_testCode l r_28 0 re_1102) (va_cwS 3 hts gX4_readTest_X4_testCode rfl rfl rfl (by decide +kernel) ⟨Nat.le_of_ble_eq_true rfl, Nat.le_of_ble_eq_true rfl⟩) ⟨fun a U g mk q => q, fun U hU hW => ⟨rfl, trivial⟩⟩ rfl rfl hl.1 rfl (lv_room (Nat.le_of_ble_eq_true rfl)) dX4_readTest_118 ⟨Nat.le_of_ble_eq_true rfl, Nat.le_of_ble_eq_true rfl⟩) (fun r_1124 k_1125 => ?_)
        have hFc := free_all hD hS hA
        refine va_callv (va_runV (As := [.int r_1124]) (rest := []) ⟨hx, hb, hml, hown, hts⟩ (r_addCode l D ws_1068 ty_1069 adK adV fo rd krd tp ktp cd bb tl r_1124 H.size (⟨ts_1095, te_1096, cc_1097, ra_1098, rb_1099, rc_1100, rv_1101, re_1102, ya_1103, by omega, by omega, by omega, by omega, er_1108, et_1109, ⟨k_1110, c9_1111, t_1112, f_1113, e_1114, u_1115⟩, ⟨k_1116, c9_1117, t_1118, f_1119, e_1120, u_1121⟩⟩ : RS ws_1068 ty_1069 rd krd tp ktp cd bb tl)) (cwV 1 hts gX4_readTest_X4_addCode rfl rfl rfl (by decide +kernel) ⟨Nat.le_of_ble_eq_true rfl, Nat.le_of_ble_eq_true rfl⟩) ⟨fun a U g mk q => by obtain ⟨q0, q1, qP, qK, qD, qS⟩ := q; exact ⟨q0, q1, qP, va_K.moved (u := U) (U := U.calling g mk a) (Vm.Alike.refl U.vm) qK, qD, SZ.same rfl rfl qS⟩, va_recv hK hP (ci := 4) (q0 := krd) rfl er_1108, fun U hU hW => ⟨rfl, by rw [hU], by rw [hU]; exact hP, va_K.moved hW.alike hK, hD.weaken (fun _ _ _ _ => trivial), hsz9.go hS hW hU hFc⟩⟩ rfl rfl hl.1 rfl (lv_room (Nat.le_of_ble_eq_true rfl)) dX4_readTest_121 ⟨Nat.le_of_ble_eq_true rfl, Nat.le_of_ble_eq_true rfl⟩) hS (fun q _ h => hFc q h) hFc (fun u t H1 locs ht hvm w_1127 hB hz1 hk1 hS => ?_)
        obtain ⟨ws_1128, ty_1129, hm_1130, ht_1132, hP1, hK1, hD1, hx_1131⟩ := hB
        rw [ht] at hP1
        have hK := va_K.moved hvm.symm hK1
        have hD := hD1.weaken (fun _ _ _ h => hFc _ h)
        generalize H1 = H at hP1 hS ⊢
        have hP := hP1
        obtain ⟨g_1134, e_1133, h_1135⟩ := hm_1130.obj er_1108
        obtain ⟨z_1136, z_1137, z_1138, z_1139, z_1140, z_1141, rfl⟩ := smX4 h_1135
        obtain ⟨g_1143, e_1142, h_1144⟩ := hm_1130.obj et_1109
        obtain ⟨z_1145, z_1146, z_1147, z_1148, rfl⟩ := smX6 h_1144
        obtain ⟨f_1150, e_1149⟩ := hm_1130.arrI e_1114
        have u_1151 := ht_1132 _ _ u_1115
        obtain ⟨f_1153, e_1152⟩ := hm_1130.arrI e_1120
        have u_1154 := ht_1132 _ _ u_1121
        have hsm := hsm.tr (hm_1130.mono (by decide))
        have htx := htx.tr ht_1132
        obtain ⟨ts_1155, te_1156, cc_1157, ra_1158, rb_1159, rc_1160, rv_1161, re_1162, ya_1163, h1_1164, h2_1165, h3_1166, h4_1167, er_1168, et_1169, ⟨k_1170, c9_1171, t_1172, f_1173, e_1174, u_1175⟩, ⟨k_1176, c9_1177, t_1178, f_1179, e_1180, u_1181⟩⟩ := id hx_1131
        refine lv_iconst (v := 1) hx hb dX4_readTest_124 (by decide) ?_
        exact W.zret (v := 1) hx hb hr rfl (fun t ht hW => ⟨⟨1, (), rfl, Or.inr rfl, ws_1128, ty_1129, hsm, htx, by rw [ht]; exact hP, va_K.moved hW.alike hK, hD, (⟨ts_1155, te_1156, cc_1157, ra_1158, rb_1159, rc_1160, rv_1161, re_1162, ya_1163, by omega, by omega, by omega, by omega, er_1168, et_1169, ⟨k_1170, c9_1171, t_1172, f_1173, e_1174, u_1175⟩, ⟨k_1176, c9_1177, t_1178, f_1179, e_1180, u_1181⟩⟩ : RS ws_1128 ty_1129 rd krd tp ktp cd bb tl)⟩, hS.F ht⟩) hS.2.2 dX4_readTest_125
      refine lv_istore_n (lv' := [(2, .int 1), (1, .int r_28), (0, .ref rd)]) hx hb dX4_readTest_70 rfl hl (by decide) rfl (fun ls hl => ?_)
      refine lv_iload_n hx hb dX4_readTest_71 rfl (lv_at hl 0 rfl) ?_
      refine lv_if_ne (tgt := 92) hx hb dX4_readTest_72 (by decide) (fun c_1182 => ?_) (fun c_1182 => absurd c_1182 (by decide))
      refine lv_aload_n hx hb dX4_readTest_92 rfl (lv_at hl 2 rfl) ?_
      refine va_get (D := D) (ci := 4) (v := .ref tp) (C := RX4) (T := TX4) (N := 8) hx hb hts hin4 hown hK hP krd e_956 rfl 0 (by decide) (hts (.fieldLink RX4 12 "HoneyHouse$RuleReader" "tape" "LHoneyHouse$Tape;") (List.mem_of_getElem? (i := 1) rfl)) (fun _ h9 => h9) rfl dX4_readTest_93 ?_
      have hFc := free_all hD hS hA
      refine va_callv (va_runV (As := []) (rest := []) ⟨hx, hb, hml, hown, hts⟩ (a_advance l D ws_951 ty_952 tp ktp tl e_67 (nI k_65) (nI s_66) bb k_22 c9_23 t_24 f_962 H.size (by omega) (by omega) e_957 e_961 u_963) (cwV 0 hts gX4_readTest_X6_advance rfl rfl rfl (by decide +kernel) ⟨Nat.le_of_ble_eq_true rfl, Nat.le_of_ble_eq_true rfl⟩) ⟨fun a U g mk q => by obtain ⟨q0, q1, qP, qK, qD⟩ := q; exact ⟨q0, q1, qP, va_K.moved (u := U) (U := U.calling g mk a) (Vm.Alike.refl U.vm) qK, qD⟩, va_recv hK hP (ci := 6) (q0 := ktp) rfl e_957, fun U hU hW => ⟨rfl, by rw [hU], by rw [hU]; exact hP, va_K.moved hW.alike hK, hD.weaken (fun _ _ _ _ => trivial)⟩⟩ rfl rfl hl.1 rfl (lv_room (Nat.le_of_ble_eq_true rfl)) dX4_readTest_96 ⟨Nat.le_of_ble_eq_true rfl, Nat.le_of_ble_eq_true rfl⟩) hS (fun q _ h => hFc q h) hFc (fun u t H1 locs ht hvm w_1184 hB hz1 hk1 hS => ?_)
      obtain ⟨ws_1185, ty_1186, hm_1187, ht_1189, hP1, hK1, hD1, hx_1188⟩ := hB
      rw [ht] at hP1
      have hK := va_K.moved hvm.symm hK1
      have hD := hD1.weaken (fun _ _ _ h => hFc _ h)
      generalize H1 = H at hP1 hS ⊢
      have hP := hP1
      have e_1190 := hm_1187.objK e_956 (by decide)
      obtain ⟨g_1192, e_1191, h_1193⟩ := hm_1187.obj e_957
      obtain ⟨z_1194, z_1195, z_1196, z_1197, rfl⟩ := smX6 h_1193
      obtain ⟨f_1199, e_1198⟩ := hm_1187.arrI e_958
      have u_1200 := ht_1189 _ _ u_960
      obtain ⟨f_1202, e_1201⟩ := hm_1187.arrI e_961
      have u_1203 := ht_1189 _ _ u_963
      have hsm := hsm.tr (hm_1187.mono (by decide))
      have htx := htx.tr ht_1189
      obtain ⟨k_1204, s_1205, e_1206, h_1207, h_1208, h_1209, e_1210⟩ := hx_1188
      refine lv_aload_n hx hb dX4_readTest_99 rfl (lv_at hl 2 rfl) ?_
      refine lv_sipush (v := 1000) hx hb dX4_readTest_100 (by decide) ?_
      have hFc := free_all hD hS hA
      refine va_calli (va_runV (As := [.int 1000]) (rest := []) ⟨hx, hb, hml, hown, hts⟩ (r_readNumber l D ws_1185 ty_1186 adK adV fo rd krd tp ktp cd bb tl 1000 H.size (⟨s_1205, e_1206, cc_3, ra_4, rb_5, rc_6, rv_7, re_8, nI k_1204, by omega, by omega, by omega, by omega, e_1190, e_1210, ⟨k_16, c9_17, t_18, f_1199, e_1198, u_1200⟩, ⟨k_22, c9_23, t_24, f_1202, e_1201, u_1203⟩⟩ : RS ws_1185 ty_1186 rd krd tp ktp cd bb tl)) (cwV 1 hts gX4_readTest_X4_readNumber rfl rfl rfl (by decide +kernel) ⟨Nat.le_of_ble_eq_true rfl, Nat.le_of_ble_eq_true rfl⟩) ⟨fun a U g mk q => by obtain ⟨q0, q1, qP, qK, qD, qS⟩ := q; exact ⟨q0, q1, qP, va_K.moved (u := U) (U := U.calling g mk a) (Vm.Alike.refl U.vm) qK, qD, SZ.same rfl rfl qS⟩, va_recv hK hP (ci := 4) (q0 := krd) rfl e_1190, fun U hU hW => ⟨rfl, by rw [hU], by rw [hU]; exact hP, va_K.moved hW.alike hK, hD.weaken (fun _ _ _ _ => trivial), hsz9.go hS hW hU hFc⟩⟩ rfl rfl hl.1 rfl (lv_room (Nat.le_of_ble_eq_true rfl)) dX4_readTest_103 ⟨Nat.le_of_ble_eq_true rfl, Nat.le_of_ble_eq_true rfl⟩) hS (fun q _ h => hFc q h) hFc (fun r_1211 u t H1 locs ht hvm w_1212 hB hz1 hk1 hS => ?_)
      obtain ⟨ws_1213, ty_1214, hm_1215, ht_1217, hP1, hK1, hD1, hx_1216⟩ := hB
      rw [ht] at hP1
      have hK := va_K.moved hvm.symm hK1
      have hD := hD1.weaken (fun _ _ _ h => hFc _ h)
      generalize H1 = H at hP1 hS ⊢
      have hP := hP1
      obtain ⟨g_1219, e_1218, h_1220⟩ := hm_1215.obj e_1190
      obtain ⟨z_1221, z_1222, z_1223, z_1224, z_1225, z_1226, rfl⟩ := smX4 h_1220
      obtain ⟨g_1228, e_1227, h_1229⟩ := hm_1215.obj e_1210
      obtain ⟨z_1230, z_1231, z_1232, z_1233, rfl⟩ := smX6 h_1229
      obtain ⟨f_1235, e_1234⟩ := hm_1215.arrI e_1198
      have u_1236 := ht_1217 _ _ u_1200
      obtain ⟨f_1238, e_1237⟩ := hm_1215.arrI e_1201
      have u_1239 := ht_1217 _ _ u_1203
      have hsm := hsm.tr (hm_1215.mono (by decide))
      have htx := htx.tr ht_1217
      obtain ⟨ts_1240, te_1241, cc_1242, ra_1243, rb_1244, rc_1245, rv_1246, re_1247, ya_1248, h1_1249, h2_1250, h3_1251, h4_1252, er_1253, et_1254, ⟨k_1255, c9_1256, t_1257, f_1258, e_1259, u_1260⟩, ⟨k_1261, c9_1262, t_1263, f_1264, e_1265, u_1266⟩⟩ := id hx_1216
      rcases w_1212 with rfl | rfl
      · refine lv_if_ne (tgt := 111) hx hb dX4_readTest_106 (by decide) (fun c_1267 => absurd (by decide) c_1267) (fun c_1267 => ?_)
        refine lv_iconst (v := 0) hx hb dX4_readTest_109 (by decide) ?_
        exact W.zret (v := 0) hx hb hr rfl (fun t ht hW => ⟨⟨0, (), rfl, Or.inl rfl, ws_1213, ty_1214, hsm, htx, by rw [ht]; exact hP, va_K.moved hW.alike hK, hD, (⟨ts_1240, te_1241, cc_1242, ra_1243, rb_1244, rc_1245, rv_1246, re_1247, ya_1248, by omega, by omega, by omega, by omega, er_1253, et_1254, ⟨k_1255, c9_1256, t_1257, f_1258, e_1259, u_1260⟩, ⟨k_1261, c9_1262, t_1263, f_1264, e_1265, u_1266⟩⟩ : RS ws_1213 ty_1214 rd krd tp ktp cd bb tl)⟩, hS.F ht⟩) hS.2.2 dX4_readTest_110
      refine lv_if_ne (tgt := 111) hx hb dX4_readTest_106 (by decide) (fun c_1268 => ?_) (fun c_1268 => absurd c_1268 (by decide))
      refine lv_aload_n hx hb dX4_readTest_111 rfl (lv_at hl 2 rfl) ?_
      refine lv_iload_n hx hb dX4_readTest_112 rfl (lv_at hl 1 rfl) ?_
      refine lv_iload_n hx hb dX4_readTest_113 rfl (lv_at hl 0 rfl) ?_
      refine lv_aload_n hx hb dX4_readTest_114 rfl (lv_at hl 2 rfl) ?_
      refine va_get (D := D) (ci := 4) (v := .int re_1247) (C := RX4) (T := TX4) (N := 8) hx hb hts hin4 hown hK hP krd er_1253 rfl 7 (by decide) (hts (.fieldLink RX4 56 "HoneyHouse$RuleReader" "value" "I") (List.mem_of_getElem? (i := 2) rfl)) (fun _ h9 => h9) rfl dX4_readTest_115 ?_
      refine vp_callSi (W.runS (As := [.int r_28, .int 1, .int re_1247]) (rest := [.ref rd]) ⟨hx, hb, hml, hown, hts⟩ (s_testCode l r_28 1 re_1247) (va_cwS 3 hts gX4_readTest_X4_testCode rfl rfl rfl (by decide +kernel) ⟨Nat.le_of_ble_eq_true rfl, Nat.le_of_ble_eq_true rfl⟩) ⟨fun a U g mk q => q, fun U hU hW => ⟨rfl, trivial⟩⟩ rfl rfl hl.1 rfl (lv_room (Nat.le_of_ble_eq_true rfl)) dX4_readTest_118 ⟨Nat.le_of_ble_eq_true rfl, Nat.le_of_ble_eq_true rfl⟩) (fun r_1269 k_1270 => ?_)
      have hFc := free_all hD hS hA
      refine va_callv (va_runV (As := [.int r_1269]) (rest := []) ⟨hx, hb, hml, hown, hts⟩ (r_addCode l D ws_1213 ty_1214 adK adV fo rd krd tp ktp cd bb tl r_1269 H.size (⟨ts_1240, te_1241, cc_1242, ra_1243, rb_1244, rc_1245, rv_1246, re_1247, ya_1248, by omega, by omega, by omega, by omega, er_1253, et_1254, ⟨k_1255, c9_1256, t_1257, f_1258, e_1259, u_1260⟩, ⟨k_1261, c9_1262, t_1263, f_1264, e_1265, u_1266⟩⟩ : RS ws_1213 ty_1214 rd krd tp ktp cd bb tl)) (cwV 1 hts gX4_readTest_X4_addCode rfl rfl rfl (by decide +kernel) ⟨Nat.le_of_ble_eq_true rfl, Nat.le_of_ble_eq_true rfl⟩) ⟨fun a U g mk q => by obtain ⟨q0, q1, qP, qK, qD, qS⟩ := q; exact ⟨q0, q1, qP, va_K.moved (u := U) (U := U.calling g mk a) (Vm.Alike.refl U.vm) qK, qD, SZ.same rfl rfl qS⟩, va_recv hK hP (ci := 4) (q0 := krd) rfl er_1253, fun U hU hW => ⟨rfl, by rw [hU], by rw [hU]; exact hP, va_K.moved hW.alike hK, hD.weaken (fun _ _ _ _ => trivial), hsz9.go hS hW hU hFc⟩⟩ rfl rfl hl.1 rfl (lv_room (Nat.le_of_ble_eq_true rfl)) dX4_readTest_121 ⟨Nat.le_of_ble_eq_true rfl, Nat.le_of_ble_eq_true rfl⟩) hS (fun q _ h => hFc q h) hFc (fun u t H1 locs ht hvm w_1272 hB hz1 hk1 hS => ?_)
      obtain ⟨ws_1273, ty_1274, hm_1275, ht_1277, hP1, hK1, hD1, hx_1276⟩ := hB
      rw [ht] at hP1
      have hK := va_K.moved hvm.symm hK1
      have hD := hD1.weaken (fun _ _ _ h => hFc _ h)
      generalize H1 = H at hP1 hS ⊢
      have hP := hP1
      obtain ⟨g_1279, e_1278, h_1280⟩ := hm_1275.obj er_1253
      obtain ⟨z_1281, z_1282, z_1283, z_1284, z_1285, z_1286, rfl⟩ := smX4 h_1280
      obtain ⟨g_1288, e_1287, h_1289⟩ := hm_1275.obj et_1254
      obtain ⟨z_1290, z_1291, z_1292, z_1293, rfl⟩ := smX6 h_1289
      obtain ⟨f_1295, e_1294⟩ := hm_1275.arrI e_1259
      have u_1296 := ht_1277 _ _ u_1260
      obtain ⟨f_1298, e_1297⟩ := hm_1275.arrI e_1265
      have u_1299 := ht_1277 _ _ u_1266
      have hsm := hsm.tr (hm_1275.mono (by decide))
      have htx := htx.tr ht_1277
      obtain ⟨ts_1300, te_1301, cc_1302, ra_1303, rb_1304, rc_1305, rv_1306, re_1307, ya_1308, h1_1309, h2_1310, h3_1311, h4_1312, er_1313, et_1314, ⟨k_1315, c9_1316, t_1317, f_1318, e_1319, u_1320⟩, ⟨k_1321, c9_1322, t_1323, f_1324, e_1325, u_1326⟩⟩ := id hx_1276
      refine lv_iconst (v := 1) hx hb dX4_readTest_124 (by decide) ?_
      exact W.zret (v := 1) hx hb hr rfl (fun t ht hW => ⟨⟨1, (), rfl, Or.inr rfl, ws_1273, ty_1274, hsm, htx, by rw [ht]; exact hP, va_K.moved hW.alike hK, hD, (⟨ts_1300, te_1301, cc_1302, ra_1303, rb_1304, rc_1305, rv_1306, re_1307, ya_1308, by omega, by omega, by omega, by omega, er_1313, et_1314, ⟨k_1315, c9_1316, t_1317, f_1318, e_1319, u_1320⟩, ⟨k_1321, c9_1322, t_1323, f_1324, e_1325, u_1326⟩⟩ : RS ws_1273 ty_1274 rd krd tp ktp cd bb tl)⟩, hS.F ht⟩) hS.2.2 dX4_readTest_125
    refine lv_aload_n hx hb dX4_readTest_34 rfl (lv_at hl 1 rfl) ?_
    refine lv_iload_n hx hb dX4_readTest_35 rfl (lv_at hl 0 rfl) ?_
    refine lv_bipush (v := 30) hx hb dX4_readTest_36 (by decide) ?_
    refine lv_icmp_ne (tgt := 45) hx hb dX4_readTest_38 (by decide) (fun c_1327 => ?_) (fun c_1327 => ?_)
    · refine lv_iconst (v := 4) hx hb dX4_readTest_45 (by decide) ?_
      have hFc := free_all hD hS hA
      refine va_calli (va_runV (As := [.int 4]) (rest := []) ⟨hx, hb, hml, hown, hts⟩ (r_readNumber l D ws_46 ty_47 adK adV fo rd krd tp ktp cd bb tl 4 H.size (⟨s_66, e_67, cc_3, ra_4, rb_5, rc_6, rv_7, re_8, nI k_65, by omega, by omega, by omega, by omega, e_51, e_71, ⟨k_16, c9_17, t_18, f_60, e_59, u_61⟩, ⟨k_22, c9_23, t_24, f_63, e_62, u_64⟩⟩ : RS ws_46 ty_47 rd krd tp ktp cd bb tl)) (cwV 1 hts gX4_readTest_X4_readNumber rfl rfl rfl (by decide +kernel) ⟨Nat.le_of_ble_eq_true rfl, Nat.le_of_ble_eq_true rfl⟩) ⟨fun a U g mk q => by obtain ⟨q0, q1, qP, qK, qD, qS⟩ := q; exact ⟨q0, q1, qP, va_K.moved (u := U) (U := U.calling g mk a) (Vm.Alike.refl U.vm) qK, qD, SZ.same rfl rfl qS⟩, va_recv hK hP (ci := 4) (q0 := krd) rfl e_51, fun U hU hW => ⟨rfl, by rw [hU], by rw [hU]; exact hP, va_K.moved hW.alike hK, hD.weaken (fun _ _ _ _ => trivial), hsz9.go hS hW hU hFc⟩⟩ rfl rfl hl.1 rfl (lv_room (Nat.le_of_ble_eq_true rfl)) dX4_readTest_46 ⟨Nat.le_of_ble_eq_true rfl, Nat.le_of_ble_eq_true rfl⟩) hS (fun q _ h => hFc q h) hFc (fun r_1328 u t H1 locs ht hvm w_1329 hB hz1 hk1 hS => ?_)
      obtain ⟨ws_1330, ty_1331, hm_1332, ht_1334, hP1, hK1, hD1, hx_1333⟩ := hB
      rw [ht] at hP1
      have hK := va_K.moved hvm.symm hK1
      have hD := hD1.weaken (fun _ _ _ h => hFc _ h)
      generalize H1 = H at hP1 hS ⊢
      have hP := hP1
      obtain ⟨g_1336, e_1335, h_1337⟩ := hm_1332.obj e_51
      obtain ⟨z_1338, z_1339, z_1340, z_1341, z_1342, z_1343, rfl⟩ := smX4 h_1337
      obtain ⟨g_1345, e_1344, h_1346⟩ := hm_1332.obj e_71
      obtain ⟨z_1347, z_1348, z_1349, z_1350, rfl⟩ := smX6 h_1346
      obtain ⟨f_1352, e_1351⟩ := hm_1332.arrI e_59
      have u_1353 := ht_1334 _ _ u_61
      obtain ⟨f_1355, e_1354⟩ := hm_1332.arrI e_62
      have u_1356 := ht_1334 _ _ u_64
      have hsm := hsm.tr (hm_1332.mono (by decide))
      have htx := htx.tr ht_1334
      obtain ⟨ts_1357, te_1358, cc_1359, ra_1360, rb_1361, rc_1362, rv_1363, re_1364, ya_1365, h1_1366, h2_1367, h3_1368, h4_1369, er_1370, et_1371, ⟨k_1372, c9_1373, t_1374, f_1375, e_1376, u_1377⟩, ⟨k_1378, c9_1379, t_1380, f_1381, e_1382, u_1383⟩⟩ := id hx_1333
      rcases w_1329 with rfl | rfl
      · refine lv_if_ne (tgt := 54) hx hb dX4_readTest_49 (by decide) (fun c_1384 => absurd (by decide) c_1384) (fun c_1384 => ?_)
        refine lv_iconst (v := 0) hx hb dX4_readTest_52 (by decide) ?_
        exact W.zret (v := 0) hx hb hr rfl (fun t ht hW => ⟨⟨0, (), rfl, Or.inl rfl, ws_1330, ty_1331, hsm, htx, by rw [ht]; exact hP, va_K.moved hW.alike hK, hD, (⟨ts_1357, te_1358, cc_1359, ra_1360, rb_1361, rc_1362, rv_1363, re_1364, ya_1365, by omega, by omega, by omega, by omega, er_1370, et_1371, ⟨k_1372, c9_1373, t_1374, f_1375, e_1376, u_1377⟩, ⟨k_1378, c9_1379, t_1380, f_1381, e_1382, u_1383⟩⟩ : RS ws_1330 ty_1331 rd krd tp ktp cd bb tl)⟩, hS.F ht⟩) hS.2.2 dX4_readTest_53
      refine lv_if_ne (tgt := 54) hx hb dX4_readTest_49 (by decide) (fun c_1385 => ?_) (fun c_1385 => absurd c_1385 (by decide))
      refine lv_iload_n hx hb dX4_readTest_54 rfl (lv_at hl 0 rfl) ?_
      refine lv_aload_n hx hb dX4_readTest_55 rfl (lv_at hl 1 rfl) ?_
      refine va_get (D := D) (ci := 4) (v := .int re_1364) (C := RX4) (T := TX4) (N := 8) hx hb hts hin4 hown hK hP krd er_1370 rfl 7 (by decide) (hts (.fieldLink RX4 56 "HoneyHouse$RuleReader" "value" "I") (List.mem_of_getElem? (i := 2) rfl)) (fun _ h9 => h9) rfl dX4_readTest_56 ?_
      refine lv_iadd hx hb dX4_readTest_59 ?_
      refine lv_topi (fun z_1386 _ => ?_)
      refine lv_istore_n (lv' := [(1, .int z_1386), (0, .ref rd)]) hx hb dX4_readTest_60 rfl hl (by decide) rfl (fun ls hl => ?_)
      refine lv_aload_n hx hb dX4_readTest_61 rfl (lv_at hl 1 rfl) ?_
      refine va_get (D := D) (ci := 4) (v := .ref tp) (C := RX4) (T := TX4) (N := 8) hx hb hts hin4 hown hK hP krd er_1370 rfl 0 (by decide) (hts (.fieldLink RX4 12 "HoneyHouse$RuleReader" "tape" "LHoneyHouse$Tape;") (List.mem_of_getElem? (i := 1) rfl)) (fun _ h9 => h9) rfl dX4_readTest_62 ?_
      refine va_ldcS hx hb hown hsz9.2.2.2.2.2.2.2.2.1 dX4_readTest_65 ?_
      have hFc := free_all hD hS hA
      refine va_calli (va_runV (As := [.ref (adK 5)]) (rest := []) ⟨hx, hb, hml, hown, hts⟩ (a_isWord l D ws_1330 ty_1331 adK adV fo 5 tp ktp tl ya_1365 (nI ts_1357) (nI te_1358) bb k_1378 c9_1379 t_1380 f_1381 H.size (by decide) et_1371 e_1382 u_1383) (cwV 1 hts gX4_readTest_X6_isWord rfl rfl rfl (by decide +kernel) ⟨Nat.le_of_ble_eq_true rfl, Nat.le_of_ble_eq_true rfl⟩) ⟨fun a U g mk q => by obtain ⟨q0, q1, qP, qK, qD, qS⟩ := q; exact ⟨q0, q1, qP, va_K.moved (u := U) (U := U.calling g mk a) (Vm.Alike.refl U.vm) qK, qD, SZ.same rfl rfl qS⟩, va_recv hK hP (ci := 6) (q0 := ktp) rfl et_1371, fun U hU hW => ⟨rfl, by rw [hU], by rw [hU]; exact hP, va_K.moved hW.alike hK, hD.weaken (fun _ _ _ _ => trivial), hsz9.go hS hW hU hFc⟩⟩ rfl rfl hl.1 rfl (lv_room (Nat.le_of_ble_eq_true rfl)) dX4_readTest_67 ⟨Nat.le_of_ble_eq_true rfl, Nat.le_of_ble_eq_true rfl⟩) hS (fun q _ h => hFc q h) hFc (fun r_1387 u t H1 locs ht hvm w_1388 hB hz1 hk1 hS => ?_)
      obtain ⟨ws_1389, ty_1390, hm_1391, ht_1393, hP1, hK1, hD1, hx_1392⟩ := hB
      rw [ht] at hP1
      have hK := va_K.moved hvm.symm hK1
      have hD := hD1.weaken (fun _ _ _ h => hFc _ h)
      generalize H1 = H at hP1 hS ⊢
      have hP := hP1
      have e_1394 := hm_1391.objK er_1370 (by decide)
      have e_1395 := hm_1391.objK et_1371 (by decide)
      obtain ⟨f_1397, e_1396⟩ := hm_1391.arrI e_1376
      have u_1398 := ht_1393 _ _ u_1377
      obtain ⟨f_1400, e_1399⟩ := hm_1391.arrI e_1382
      have u_1401 := ht_1393 _ _ u_1383
      have hsm := hsm.tr (hm_1391.mono (by decide))
      have htx := htx.tr ht_1393
      rcases w_1388 with rfl | rfl
      · refine lv_istore_n (lv' := [(2, .int 0), (1, .int z_1386), (0, .ref rd)]) hx hb dX4_readTest_70 rfl hl (by decide) rfl (fun ls hl => ?_)
        refine lv_iload_n hx hb dX4_readTest_71 rfl (lv_at hl 0 rfl) ?_
        refine lv_if_ne (tgt := 92) hx hb dX4_readTest_72 (by decide) (fun c_1402 => absurd (by decide) c_1402) (fun c_1402 => ?_)
        refine lv_aload_n hx hb dX4_readTest_75 rfl (lv_at hl 2 rfl) ?_
        refine va_get (D := D) (ci := 4) (v := .ref tp) (C := RX4) (T := TX4) (N := 8) hx hb hts hin4 hown hK hP krd e_1394 rfl 0 (by decide) (hts (.fieldLink RX4 12 "HoneyHouse$RuleReader" "tape" "LHoneyHouse$Tape;") (List.mem_of_getElem? (i := 1) rfl)) (fun _ h9 => h9) rfl dX4_readTest_76 ?_
        refine va_ldcS hx hb hown hsz9.2.2.2.2.2.2.2.1 dX4_readTest_79 ?_
        have hFc := free_all hD hS hA
        refine va_calli (va_runV (As := [.ref (adK 4)]) (rest := []) ⟨hx, hb, hml, hown, hts⟩ (a_isWord l D ws_1389 ty_1390 adK adV fo 4 tp ktp tl ya_1365 (nI ts_1357) (nI te_1358) bb k_1378 c9_1379 t_1380 f_1400 H.size (by decide) e_1395 e_1399 u_1401) (cwV 1 hts gX4_readTest_X6_isWord rfl rfl rfl (by decide +kernel) ⟨Nat.le_of_ble_eq_true rfl, Nat.le_of_ble_eq_true rfl⟩) ⟨fun a U g mk q => by obtain ⟨q0, q1, qP, qK, qD, qS⟩ := q; exact ⟨q0, q1, qP, va_K.moved (u := U) (U := U.calling g mk a) (Vm.Alike.refl U.vm) qK, qD, SZ.same rfl rfl qS⟩, va_recv hK hP (ci := 6) (q0 := ktp) rfl e_1395, fun U hU hW => ⟨rfl, by rw [hU], by rw [hU]; exact hP, va_K.moved hW.alike hK, hD.weaken (fun _ _ _ _ => trivial), hsz9.go hS hW hU hFc⟩⟩ rfl rfl hl.1 rfl (lv_room (Nat.le_of_ble_eq_true rfl)) dX4_readTest_81 ⟨Nat.le_of_ble_eq_true rfl, Nat.le_of_ble_eq_true rfl⟩) hS (fun q _ h => hFc q h) hFc (fun r_1403 u t H1 locs ht hvm w_1404 hB hz1 hk1 hS => ?_)
        obtain ⟨ws_1405, ty_1406, hm_1407, ht_1409, hP1, hK1, hD1, hx_1408⟩ := hB
        rw [ht] at hP1
        have hK := va_K.moved hvm.symm hK1
        have hD := hD1.weaken (fun _ _ _ h => hFc _ h)
        generalize H1 = H at hP1 hS ⊢
        have hP := hP1
        have e_1410 := hm_1407.objK e_1394 (by decide)
        have e_1411 := hm_1407.objK e_1395 (by decide)
        obtain ⟨f_1413, e_1412⟩ := hm_1407.arrI e_1396
        have u_1414 := ht_1409 _ _ u_1398
        obtain ⟨f_1416, e_1415⟩ := hm_1407.arrI e_1399
        have u_1417 := ht_1409 _ _ u_1401
        have hsm := hsm.tr (hm_1407.mono (by decide))
        have htx := htx.tr ht_1409
        rcases w_1404 with rfl | rfl
        · refine lv_if_ne (tgt := 92) hx hb dX4_readTest_84 (by decide) (fun c_1418 => absurd (by decide) c_1418) (fun c_1418 => ?_)
          refine lv_aload_n hx hb dX4_readTest_87 rfl (lv_at hl 2 rfl) ?_
          have hFc := free_all hD hS hA
          refine va_calli (va_runV (As := []) (rest := []) ⟨hx, hb, hml, hown, hts⟩ (r_failHere l D ws_1405 ty_1406 adK adV fo rd krd tp ktp cd bb tl  H.size (⟨ts_1357, te_1358, cc_1359, ra_1360, rb_1361, rc_1362, rv_1363, re_1364, ya_1365, by omega, by omega, by omega, by omega, e_1410, e_1411, ⟨k_1372, c9_1373, t_1374, f_1413, e_1412, u_1414⟩, ⟨k_1378, c9_1379, t_1380, f_1416, e_1415, u_1417⟩⟩ : RS ws_1405 ty_1406 rd krd tp ktp cd bb tl)) (cwV 0 hts gX4_readTest_X4_failHere rfl rfl rfl (by decide +kernel) ⟨Nat.le_of_ble_eq_true rfl, Nat.le_of_ble_eq_true rfl⟩) ⟨fun a U g mk q => by obtain ⟨q0, q1, qP, qK, qD, qS⟩ := q; exact ⟨q0, q1, qP, va_K.moved (u := U) (U := U.calling g mk a) (Vm.Alike.refl U.vm) qK, qD, SZ.same rfl rfl qS⟩, va_recv hK hP (ci := 4) (q0 := krd) rfl e_1410, fun U hU hW => ⟨rfl, by rw [hU], by rw [hU]; exact hP, va_K.moved hW.alike hK, hD.weaken (fun _ _ _ _ => trivial), hsz9.go hS hW hU hFc⟩⟩ rfl rfl hl.1 rfl (lv_room (Nat.le_of_ble_eq_true rfl)) dX4_readTest_88 ⟨Nat.le_of_ble_eq_true rfl, Nat.le_of_ble_eq_true rfl⟩) hS (fun q _ h => hFc q h) hFc (fun r_1419 u t H1 locs ht hvm w_1420 hB hz1 hk1 hS => ?_)
          obtain ⟨ws_1421, ty_1422, hm_1423, ht_1425, hP1, hK1, hD1, hx_1424⟩ := hB
          rw [ht] at hP1
          have hK := va_K.moved hvm.symm hK1
          have hD := hD1.weaken (fun _ _ _ h => hFc _ h)
          generalize H1 = H at hP1 hS ⊢
          have hP := hP1
          obtain ⟨g_1427, e_1426, h_1428⟩ := hm_1423.obj e_1410
          obtain ⟨z_1429, z_1430, z_1431, z_1432, z_1433, z_1434, rfl⟩ := smX4 h_1428
          obtain ⟨g_1436, e_1435, h_1437⟩ := hm_1423.obj e_1411
          obtain ⟨z_1438, z_1439, z_1440, z_1441, rfl⟩ := smX6 h_1437
          obtain ⟨f_1443, e_1442⟩ := hm_1423.arrI e_1412
          have u_1444 := ht_1425 _ _ u_1414
          obtain ⟨f_1446, e_1445⟩ := hm_1423.arrI e_1415
          have u_1447 := ht_1425 _ _ u_1417
          have hsm := hsm.tr (hm_1423.mono (by decide))
          have htx := htx.tr ht_1425
          obtain ⟨ts_1448, te_1449, cc_1450, ra_1451, rb_1452, rc_1453, rv_1454, re_1455, ya_1456, h1_1457, h2_1458, h3_1459, h4_1460, er_1461, et_1462, ⟨k_1463, c9_1464, t_1465, f_1466, e_1467, u_1468⟩, ⟨k_1469, c9_1470, t_1471, f_1472, e_1473, u_1474⟩⟩ := id hx_1424
          subst w_1420
          exact W.zret (v := 0) hx hb hr rfl (fun t ht hW => ⟨⟨0, (), rfl, Or.inl rfl, ws_1421, ty_1422, hsm, htx, by rw [ht]; exact hP, va_K.moved hW.alike hK, hD, (⟨ts_1448, te_1449, cc_1450, ra_1451, rb_1452, rc_1453, rv_1454, re_1455, ya_1456, by omega, by omega, by omega, by omega, er_1461, et_1462, ⟨k_1463, c9_1464, t_1465, f_1466, e_1467, u_1468⟩, ⟨k_1469, c9_1470, t_1471, f_1472, e_1473, u_1474⟩⟩ : RS ws_1421 ty_1422 rd krd tp ktp cd bb tl)⟩, hS.F ht⟩) hS.2.2 dX4_readTest_91
        refine lv_if_ne (tgt := 92) hx hb dX4_readTest_84 (by decide) (fun c_1475 => ?_) (fun c_1475 => absurd c_1475 (by decide))
        refine lv_aload_n hx hb dX4_readTest_92 rfl (lv_at hl 2 rfl) ?_
        refine va_get (D := D) (ci := 4) (v := .ref tp) (C := RX4) (T := TX4) (N := 8) hx hb hts hin4 hown hK hP krd e_1410 rfl 0 (by decide) (hts (.fieldLink RX4 12 "HoneyHouse$RuleReader" "tape" "LHoneyHouse$Tape;") (List.mem_of_getElem? (i := 1) rfl)) (fun _ h9 => h9) rfl dX4_readTest_93 ?_
        have hFc := free_all hD hS hA
        refine va_callv (va_runV (As := []) (rest := []) ⟨hx, hb, hml, hown, hts⟩ (a_advance l D ws_1405 ty_1406 tp ktp tl te_1358 ya_1365 (nI ts_1357) bb k_1378 c9_1379 t_1380 f_1416 H.size (by omega) (by omega) e_1411 e_1415 u_1417) (cwV 0 hts gX4_readTest_X6_advance rfl rfl rfl (by decide +kernel) ⟨Nat.le_of_ble_eq_true rfl, Nat.le_of_ble_eq_true rfl⟩) ⟨fun a U g mk q => by obtain ⟨q0, q1, qP, qK, qD⟩ := q; exact ⟨q0, q1, qP, va_K.moved (u := U) (U := U.calling g mk a) (Vm.Alike.refl U.vm) qK, qD⟩, va_recv hK hP (ci := 6) (q0 := ktp) rfl e_1411, fun U hU hW => ⟨rfl, by rw [hU], by rw [hU]; exact hP, va_K.moved hW.alike hK, hD.weaken (fun _ _ _ _ => trivial)⟩⟩ rfl rfl hl.1 rfl (lv_room (Nat.le_of_ble_eq_true rfl)) dX4_readTest_96 ⟨Nat.le_of_ble_eq_true rfl, Nat.le_of_ble_eq_true rfl⟩) hS (fun q _ h => hFc q h) hFc (fun u t H1 locs ht hvm w_1477 hB hz1 hk1 hS => ?_)
        obtain ⟨ws_1478, ty_1479, hm_1480, ht_1482, hP1, hK1, hD1, hx_1481⟩ := hB
        rw [ht] at hP1
        have hK := va_K.moved hvm.symm hK1
        have hD := hD1.weaken (fun _ _ _ h => hFc _ h)
        generalize H1 = H at hP1 hS ⊢
        have hP := hP1
        have e_1483 := hm_1480.objK e_1410 (by decide)
        obtain ⟨g_1485, e_1484, h_1486⟩ := hm_1480.obj e_1411
        obtain ⟨z_1487, z_1488, z_1489, z_1490, rfl⟩ := smX6 h_1486
        obtain ⟨f_1492, e_1491⟩ := hm_1480.arrI e_1412
        have u_1493 := ht_1482 _ _ u_1414
        obtain ⟨f_1495, e_1494⟩ := hm_1480.arrI e_1415
        have u_1496 := ht_1482 _ _ u_1417
        have hsm := hsm.tr (hm_1480.mono (by decide))
        have htx := htx.tr ht_1482
        obtain ⟨k_1497, s_1498, e_1499, h_1500, h_1501, h_1502, e_1503⟩ := hx_1481
        refine lv_aload_n hx hb dX4_readTest_99 rfl (lv_at hl 2 rfl) ?_
        refine lv_sipush (v := 1000) hx hb dX4_readTest_100 (by decide) ?_
        have hFc := free_all hD hS hA
        refine va_calli (va_runV (As := [.int 1000]) (rest := []) ⟨hx, hb, hml, hown, hts⟩ (r_readNumber l D ws_1478 ty_1479 adK adV fo rd krd tp ktp cd bb tl 1000 H.size (⟨s_1498, e_1499, cc_1359, ra_1360, rb_1361, rc_1362, rv_1363, re_1364, nI k_1497, by omega, by omega, by omega, by omega, e_1483, e_1503, ⟨k_1372, c9_1373, t_1374, f_1492, e_1491, u_1493⟩, ⟨k_1378, c9_1379, t_1380, f_1495, e_1494, u_1496⟩⟩ : RS ws_1478 ty_1479 rd krd tp ktp cd bb tl)) (cwV 1 hts gX4_readTest_X4_readNumber rfl rfl rfl (by decide +kernel) ⟨Nat.le_of_ble_eq_true rfl, Nat.le_of_ble_eq_true rfl⟩) ⟨fun a U g mk q => by obtain ⟨q0, q1, qP, qK, qD, qS⟩ := q; exact ⟨q0, q1, qP, va_K.moved (u := U) (U := U.calling g mk a) (Vm.Alike.refl U.vm) qK, qD, SZ.same rfl rfl qS⟩, va_recv hK hP (ci := 4) (q0 := krd) rfl e_1483, fun U hU hW => ⟨rfl, by rw [hU], by rw [hU]; exact hP, va_K.moved hW.alike hK, hD.weaken (fun _ _ _ _ => trivial), hsz9.go hS hW hU hFc⟩⟩ rfl rfl hl.1 rfl (lv_room (Nat.le_of_ble_eq_true rfl)) dX4_readTest_103 ⟨Nat.le_of_ble_eq_true rfl, Nat.le_of_ble_eq_true rfl⟩) hS (fun q _ h => hFc q h) hFc (fun r_1504 u t H1 locs ht hvm w_1505 hB hz1 hk1 hS => ?_)
        obtain ⟨ws_1506, ty_1507, hm_1508, ht_1510, hP1, hK1, hD1, hx_1509⟩ := hB
        rw [ht] at hP1
        have hK := va_K.moved hvm.symm hK1
        have hD := hD1.weaken (fun _ _ _ h => hFc _ h)
        generalize H1 = H at hP1 hS ⊢
        have hP := hP1
        obtain ⟨g_1512, e_1511, h_1513⟩ := hm_1508.obj e_1483
        obtain ⟨z_1514, z_1515, z_1516, z_1517, z_1518, z_1519, rfl⟩ := smX4 h_1513
        obtain ⟨g_1521, e_1520, h_1522⟩ := hm_1508.obj e_1503
        obtain ⟨z_1523, z_1524, z_1525, z_1526, rfl⟩ := smX6 h_1522
        obtain ⟨f_1528, e_1527⟩ := hm_1508.arrI e_1491
        have u_1529 := ht_1510 _ _ u_1493
        obtain ⟨f_1531, e_1530⟩ := hm_1508.arrI e_1494
        have u_1532 := ht_1510 _ _ u_1496
        have hsm := hsm.tr (hm_1508.mono (by decide))
        have htx := htx.tr ht_1510
        obtain ⟨ts_1533, te_1534, cc_1535, ra_1536, rb_1537, rc_1538, rv_1539, re_1540, ya_1541, h1_1542, h2_1543, h3_1544, h4_1545, er_1546, et_1547, ⟨k_1548, c9_1549, t_1550, f_1551, e_1552, u_1553⟩, ⟨k_1554, c9_1555, t_1556, f_1557, e_1558, u_1559⟩⟩ := id hx_1509
        rcases w_1505 with rfl | rfl
        · refine lv_if_ne (tgt := 111) hx hb dX4_readTest_106 (by decide) (fun c_1560 => absurd (by decide) c_1560) (fun c_1560 => ?_)
          refine lv_iconst (v := 0) hx hb dX4_readTest_109 (by decide) ?_
          exact W.zret (v := 0) hx hb hr rfl (fun t ht hW => ⟨⟨0, (), rfl, Or.inl rfl, ws_1506, ty_1507, hsm, htx, by rw [ht]; exact hP, va_K.moved hW.alike hK, hD, (⟨ts_1533, te_1534, cc_1535, ra_1536, rb_1537, rc_1538, rv_1539, re_1540, ya_1541, by omega, by omega, by omega, by omega, er_1546, et_1547, ⟨k_1548, c9_1549, t_1550, f_1551, e_1552, u_1553⟩, ⟨k_1554, c9_1555, t_1556, f_1557, e_1558, u_1559⟩⟩ : RS ws_1506 ty_1507 rd krd tp ktp cd bb tl)⟩, hS.F ht⟩) hS.2.2 dX4_readTest_110
        refine lv_if_ne (tgt := 111) hx hb dX4_readTest_106 (by decide) (fun c_1561 => ?_) (fun c_1561 => absurd c_1561 (by decide))
        refine lv_aload_n hx hb dX4_readTest_111 rfl (lv_at hl 2 rfl) ?_
        refine lv_iload_n hx hb dX4_readTest_112 rfl (lv_at hl 1 rfl) ?_
        refine lv_iload_n hx hb dX4_readTest_113 rfl (lv_at hl 0 rfl) ?_
        refine lv_aload_n hx hb dX4_readTest_114 rfl (lv_at hl 2 rfl) ?_
        refine va_get (D := D) (ci := 4) (v := .int re_1540) (C := RX4) (T := TX4) (N := 8) hx hb hts hin4 hown hK hP krd er_1546 rfl 7 (by decide) (hts (.fieldLink RX4 56 "HoneyHouse$RuleReader" "value" "I") (List.mem_of_getElem? (i := 2) rfl)) (fun _ h9 => h9) rfl dX4_readTest_115 ?_
        refine vp_callSi (W.runS (As := [.int z_1386, .int 0, .int re_1540]) (rest := [.ref rd]) ⟨hx, hb, hml, hown, hts⟩ (s_testCode l z_1386 0 re_1540) (va_cwS 3 hts gX4_readTest_X4_testCode rfl rfl rfl (by decide +kernel) ⟨Nat.le_of_ble_eq_true rfl, Nat.le_of_ble_eq_true rfl⟩) ⟨fun a U g mk q => q, fun U hU hW => ⟨rfl, trivial⟩⟩ rfl rfl hl.1 rfl (lv_room (Nat.le_of_ble_eq_true rfl)) dX4_readTest_118 ⟨Nat.le_of_ble_eq_true rfl, Nat.le_of_ble_eq_true rfl⟩) (fun r_1562 k_1563 => ?_)
        have hFc := free_all hD hS hA
        refine va_callv (va_runV (As := [.int r_1562]) (rest := []) ⟨hx, hb, hml, hown, hts⟩ (r_addCode l D ws_1506 ty_1507 adK adV fo rd krd tp ktp cd bb tl r_1562 H.size (⟨ts_1533, te_1534, cc_1535, ra_1536, rb_1537, rc_1538, rv_1539, re_1540, ya_1541, by omega, by omega, by omega, by omega, er_1546, et_1547, ⟨k_1548, c9_1549, t_1550, f_1551, e_1552, u_1553⟩, ⟨k_1554, c9_1555, t_1556, f_1557, e_1558, u_1559⟩⟩ : RS ws_1506 ty_1507 rd krd tp ktp cd bb tl)) (cwV 1 hts gX4_readTest_X4_addCode rfl rfl rfl (by decide +kernel) ⟨Nat.le_of_ble_eq_true rfl, Nat.le_of_ble_eq_true rfl⟩) ⟨fun a U g mk q => by obtain ⟨q0, q1, qP, qK, qD, qS⟩ := q; exact ⟨q0, q1, qP, va_K.moved (u := U) (U := U.calling g mk a) (Vm.Alike.refl U.vm) qK, qD, SZ.same rfl rfl qS⟩, va_recv hK hP (ci := 4) (q0 := krd) rfl er_1546, fun U hU hW => ⟨rfl, by rw [hU], by rw [hU]; exact hP, va_K.moved hW.alike hK, hD.weaken (fun _ _ _ _ => trivial), hsz9.go hS hW hU hFc⟩⟩ rfl rfl hl.1 rfl (lv_room (Nat.le_of_ble_eq_true rfl)) dX4_readTest_121 ⟨Nat.le_of_ble_eq_true rfl, Nat.le_of_ble_eq_true rfl⟩) hS (fun q _ h => hFc q h) hFc (fun u t H1 locs ht hvm w_1565 hB hz1 hk1 hS => ?_)
        obtain ⟨ws_1566, ty_1567, hm_1568, ht_1570, hP1, hK1, hD1, hx_1569⟩ := hB
        rw [ht] at hP1
        have hK := va_K.moved hvm.symm hK1
        have hD := hD1.weaken (fun _ _ _ h => hFc _ h)
        generalize H1 = H at hP1 hS ⊢
        have hP := hP1
        obtain ⟨g_1572, e_1571, h_1573⟩ := hm_1568.obj er_1546
        obtain ⟨z_1574, z_1575, z_1576, z_1577, z_1578, z_1579, rfl⟩ := smX4 h_1573
        obtain ⟨g_1581, e_1580, h_1582⟩ := hm_1568.obj et_1547
        obtain ⟨z_1583, z_1584, z_1585, z_1586, rfl⟩ := smX6 h_1582
        obtain ⟨f_1588, e_1587⟩ := hm_1568.arrI e_1552
        have u_1589 := ht_1570 _ _ u_1553
        obtain ⟨f_1591, e_1590⟩ := hm_1568.arrI e_1558
        have u_1592 := ht_1570 _ _ u_1559
        have hsm := hsm.tr (hm_1568.mono (by decide))
        have htx := htx.tr ht_1570
        obtain ⟨ts_1593, te_1594, cc_1595, ra_1596, rb_1597, rc_1598, rv_1599, re_1600, ya_1601, h1_1602, h2_1603, h3_1604, h4_1605, er_1606, et_1607, ⟨k_1608, c9_1609, t_1610, f_1611, e_1612, u_1613⟩, ⟨k_1614, c9_1615, t_1616, f_1617, e_1618, u_1619⟩⟩ := id hx_1569
        refine lv_iconst (v := 1) hx hb dX4_readTest_124 (by decide) ?_
        exact W.zret (v := 1) hx hb hr rfl (fun t ht hW => ⟨⟨1, (), rfl, Or.inr rfl, ws_1566, ty_1567, hsm, htx, by rw [ht]; exact hP, va_K.moved hW.alike hK, hD, (⟨ts_1593, te_1594, cc_1595, ra_1596, rb_1597, rc_1598, rv_1599, re_1600, ya_1601, by omega, by omega, by omega, by omega, er_1606, et_1607, ⟨k_1608, c9_1609, t_1610, f_1611, e_1612, u_1613⟩, ⟨k_1614, c9_1615, t_1616, f_1617, e_1618, u_1619⟩⟩ : RS ws_1566 ty_1567 rd krd tp ktp cd bb tl)⟩, hS.F ht⟩) hS.2.2 dX4_readTest_125
      refine lv_istore_n (lv' := [(2, .int 1), (1, .int z_1386), (0, .ref rd)]) hx hb dX4_readTest_70 rfl hl (by decide) rfl (fun ls hl => ?_)
      refine lv_iload_n hx hb dX4_readTest_71 rfl (lv_at hl 0 rfl) ?_
      refine lv_if_ne (tgt := 92) hx hb dX4_readTest_72 (by decide) (fun c_1620 => ?_) (fun c_1620 => absurd c_1620 (by decide))
      refine lv_aload_n hx hb dX4_readTest_92 rfl (lv_at hl 2 rfl) ?_
      refine va_get (D := D) (ci := 4) (v := .ref tp) (C := RX4) (T := TX4) (N := 8) hx hb hts hin4 hown hK hP krd e_1394 rfl 0 (by decide) (hts (.fieldLink RX4 12 "HoneyHouse$RuleReader" "tape" "LHoneyHouse$Tape;") (List.mem_of_getElem? (i := 1) rfl)) (fun _ h9 => h9) rfl dX4_readTest_93 ?_
      have hFc := free_all hD hS hA
      refine va_callv (va_runV (As := []) (rest := []) ⟨hx, hb, hml, hown, hts⟩ (a_advance l D ws_1389 ty_1390 tp ktp tl te_1358 ya_1365 (nI ts_1357) bb k_1378 c9_1379 t_1380 f_1400 H.size (by omega) (by omega) e_1395 e_1399 u_1401) (cwV 0 hts gX4_readTest_X6_advance rfl rfl rfl (by decide +kernel) ⟨Nat.le_of_ble_eq_true rfl, Nat.le_of_ble_eq_true rfl⟩) ⟨fun a U g mk q => by obtain ⟨q0, q1, qP, qK, qD⟩ := q; exact ⟨q0, q1, qP, va_K.moved (u := U) (U := U.calling g mk a) (Vm.Alike.refl U.vm) qK, qD⟩, va_recv hK hP (ci := 6) (q0 := ktp) rfl e_1395, fun U hU hW => ⟨rfl, by rw [hU], by rw [hU]; exact hP, va_K.moved hW.alike hK, hD.weaken (fun _ _ _ _ => trivial)⟩⟩ rfl rfl hl.1 rfl (lv_room (Nat.le_of_ble_eq_true rfl)) dX4_readTest_96 ⟨Nat.le_of_ble_eq_true rfl, Nat.le_of_ble_eq_true rfl⟩) hS (fun q _ h => hFc q h) hFc (fun u t H1 locs ht hvm w_1622 hB hz1 hk1 hS => ?_)
      obtain ⟨ws_1623, ty_1624, hm_1625, ht_1627, hP1, hK1, hD1, hx_1626⟩ := hB
      rw [ht] at hP1
      have hK := va_K.moved hvm.symm hK1
      have hD := hD1.weaken (fun _ _ _ h => hFc _ h)
      generalize H1 = H at hP1 hS ⊢
      have hP := hP1
      have e_1628 := hm_1625.objK e_1394 (by decide)
      obtain ⟨g_1630, e_1629, h_1631⟩ := hm_1625.obj e_1395
      obtain ⟨z_1632, z_1633, z_1634, z_1635, rfl⟩ := smX6 h_1631
      obtain ⟨f_1637, e_1636⟩ := hm_1625.arrI e_1396
      have u_1638 := ht_1627 _ _ u_1398
      obtain ⟨f_1640, e_1639⟩ := hm_1625.arrI e_1399
      have u_1641 := ht_1627 _ _ u_1401
      have hsm := hsm.tr (hm_1625.mono (by decide))
      have htx := htx.tr ht_1627
      obtain ⟨k_1642, s_1643, e_1644, h_1645, h_1646, h_1647, e_1648⟩ := hx_1626
      refine lv_aload_n hx hb dX4_readTest_99 rfl (lv_at hl 2 rfl) ?_
      refine lv_sipush (v := 1000) hx hb dX4_readTest_100 (by decide) ?_
      have hFc := free_all hD hS hA
      refine va_calli (va_runV (As := [.int 1000]) (rest := []) ⟨hx, hb, hml, hown, hts⟩ (r_readNumber l D ws_1623 ty_1624 adK adV fo rd krd tp ktp cd bb tl 1000 H.size (⟨s_1643, e_1644, cc_1359, ra_1360, rb_1361, rc_1362, rv_1363, re_1364, nI k_1642, by omega, by omega, by omega, by omega, e_1628, e_1648, ⟨k_1372, c9_1373, t_1374, f_1637, e_1636, u_1638⟩, ⟨k_1378, c9_1379, t_1380, f_1640, e_1639, u_1641⟩⟩ : RS ws_1623 ty_1624 rd krd tp ktp cd bb tl)) (cwV 1 hts gX4_readTest_X4_readNumber rfl rfl rfl (by decide +kernel) ⟨Nat.le_of_ble_eq_true rfl, Nat.le_of_ble_eq_true rfl⟩) ⟨fun a U g mk q => by obtain ⟨q0, q1, qP, qK, qD, qS⟩ := q; exact ⟨q0, q1, qP, va_K.moved (u := U) (U := U.calling g mk a) (Vm.Alike.refl U.vm) qK, qD, SZ.same rfl rfl qS⟩, va_recv hK hP (ci := 4) (q0 := krd) rfl e_1628, fun U hU hW => ⟨rfl, by rw [hU], by rw [hU]; exact hP, va_K.moved hW.alike hK, hD.weaken (fun _ _ _ _ => trivial), hsz9.go hS hW hU hFc⟩⟩ rfl rfl hl.1 rfl (lv_room (Nat.le_of_ble_eq_true rfl)) dX4_readTest_103 ⟨Nat.le_of_ble_eq_true rfl, Nat.le_of_ble_eq_true rfl⟩) hS (fun q _ h => hFc q h) hFc (fun r_1649 u t H1 locs ht hvm w_1650 hB hz1 hk1 hS => ?_)
      obtain ⟨ws_1651, ty_1652, hm_1653, ht_1655, hP1, hK1, hD1, hx_1654⟩ := hB
      rw [ht] at hP1
      have hK := va_K.moved hvm.symm hK1
      have hD := hD1.weaken (fun _ _ _ h => hFc _ h)
      generalize H1 = H at hP1 hS ⊢
      have hP := hP1
      obtain ⟨g_1657, e_1656, h_1658⟩ := hm_1653.obj e_1628
      obtain ⟨z_1659, z_1660, z_1661, z_1662, z_1663, z_1664, rfl⟩ := smX4 h_1658
      obtain ⟨g_1666, e_1665, h_1667⟩ := hm_1653.obj e_1648
      obtain ⟨z_1668, z_1669, z_1670, z_1671, rfl⟩ := smX6 h_1667
      obtain ⟨f_1673, e_1672⟩ := hm_1653.arrI e_1636
      have u_1674 := ht_1655 _ _ u_1638
      obtain ⟨f_1676, e_1675⟩ := hm_1653.arrI e_1639
      have u_1677 := ht_1655 _ _ u_1641
      have hsm := hsm.tr (hm_1653.mono (by decide))
      have htx := htx.tr ht_1655
      obtain ⟨ts_1678, te_1679, cc_1680, ra_1681, rb_1682, rc_1683, rv_1684, re_1685, ya_1686, h1_1687, h2_1688, h3_1689, h4_1690, er_1691, et_1692, ⟨k_1693, c9_1694, t_1695, f_1696, e_1697, u_1698⟩, ⟨k_1699, c9_1700, t_1701, f_1702, e_1703, u_1704⟩⟩ := id hx_1654
      rcases w_1650 with rfl | rfl
      · refine lv_if_ne (tgt := 111) hx hb dX4_readTest_106 (by decide) (fun c_1705 => absurd (by decide) c_1705) (fun c_1705 => ?_)
        refine lv_iconst (v := 0) hx hb dX4_readTest_109 (by decide) ?_
        exact W.zret (v := 0) hx hb hr rfl (fun t ht hW => ⟨⟨0, (), rfl, Or.inl rfl, ws_1651, ty_1652, hsm, htx, by rw [ht]; exact hP, va_K.moved hW.alike hK, hD, (⟨ts_1678, te_1679, cc_1680, ra_1681, rb_1682, rc_1683, rv_1684, re_1685, ya_1686, by omega, by omega, by omega, by omega, er_1691, et_1692, ⟨k_1693, c9_1694, t_1695, f_1696, e_1697, u_1698⟩, ⟨k_1699, c9_1700, t_1701, f_1702, e_1703, u_1704⟩⟩ : RS ws_1651 ty_1652 rd krd tp ktp cd bb tl)⟩, hS.F ht⟩) hS.2.2 dX4_readTest_110
      refine lv_if_ne (tgt := 111) hx hb dX4_readTest_106 (by decide) (fun c_1706 => ?_) (fun c_1706 => absurd c_1706 (by decide))
      refine lv_aload_n hx hb dX4_readTest_111 rfl (lv_at hl 2 rfl) ?_
      refine lv_iload_n hx hb dX4_readTest_112 rfl (lv_at hl 1 rfl) ?_
      refine lv_iload_n hx hb dX4_readTest_113 rfl (lv_at hl 0 rfl) ?_
      refine lv_aload_n hx hb dX4_readTest_114 rfl (lv_at hl 2 rfl) ?_
      refine va_get (D := D) (ci := 4) (v := .int re_1685) (C := RX4) (T := TX4) (N := 8) hx hb hts hin4 hown hK hP krd er_1691 rfl 7 (by decide) (hts (.fieldLink RX4 56 "HoneyHouse$RuleReader" "value" "I") (List.mem_of_getElem? (i := 2) rfl)) (fun _ h9 => h9) rfl dX4_readTest_115 ?_
      refine vp_callSi (W.runS (As := [.int z_1386, .int 1, .int re_1685]) (rest := [.ref rd]) ⟨hx, hb, hml, hown, hts⟩ (s_testCode l z_1386 1 re_1685) (va_cwS 3 hts gX4_readTest_X4_testCode rfl rfl rfl (by decide +kernel) ⟨Nat.le_of_ble_eq_true rfl, Nat.le_of_ble_eq_true rfl⟩) ⟨fun a U g mk q => q, fun U hU hW => ⟨rfl, trivial⟩⟩ rfl rfl hl.1 rfl (lv_room (Nat.le_of_ble_eq_true rfl)) dX4_readTest_118 ⟨Nat.le_of_ble_eq_true rfl, Nat.le_of_ble_eq_true rfl⟩) (fun r_1707 k_1708 => ?_)
      have hFc := free_all hD hS hA
      refine va_callv (va_runV (As := [.int r_1707]) (rest := []) ⟨hx, hb, hml, hown, hts⟩ (r_addCode l D ws_1651 ty_1652 adK adV fo rd krd tp ktp cd bb tl r_1707 H.size (⟨ts_1678, te_1679, cc_1680, ra_1681, rb_1682, rc_1683, rv_1684, re_1685, ya_1686, by omega, by omega, by omega, by omega, er_1691, et_1692, ⟨k_1693, c9_1694, t_1695, f_1696, e_1697, u_1698⟩, ⟨k_1699, c9_1700, t_1701, f_1702, e_1703, u_1704⟩⟩ : RS ws_1651 ty_1652 rd krd tp ktp cd bb tl)) (cwV 1 hts gX4_readTest_X4_addCode rfl rfl rfl (by decide +kernel) ⟨Nat.le_of_ble_eq_true rfl, Nat.le_of_ble_eq_true rfl⟩) ⟨fun a U g mk q => by obtain ⟨q0, q1, qP, qK, qD, qS⟩ := q; exact ⟨q0, q1, qP, va_K.moved (u := U) (U := U.calling g mk a) (Vm.Alike.refl U.vm) qK, qD, SZ.same rfl rfl qS⟩, va_recv hK hP (ci := 4) (q0 := krd) rfl er_1691, fun U hU hW => ⟨rfl, by rw [hU], by rw [hU]; exact hP, va_K.moved hW.alike hK, hD.weaken (fun _ _ _ _ => trivial), hsz9.go hS hW hU hFc⟩⟩ rfl rfl hl.1 rfl (lv_room (Nat.le_of_ble_eq_true rfl)) dX4_readTest_121 ⟨Nat.le_of_ble_eq_true rfl, Nat.le_of_ble_eq_true rfl⟩) hS (fun q _ h => hFc q h) hFc (fun u t H1 locs ht hvm w_1710 hB hz1 hk1 hS => ?_)
      obtain ⟨ws_1711, ty_1712, hm_1713, ht_1715, hP1, hK1, hD1, hx_1714⟩ := hB
      rw [ht] at hP1
      have hK := va_K.moved hvm.symm hK1
      have hD := hD1.weaken (fun _ _ _ h => hFc _ h)
      generalize H1 = H at hP1 hS ⊢
      have hP := hP1
      obtain ⟨g_1717, e_1716, h_1718⟩ := hm_1713.obj er_1691
      obtain ⟨z_1719, z_1720, z_1721, z_1722, z_1723, z_1724, rfl⟩ := smX4 h_1718
      obtain ⟨g_1726, e_1725, h_1727⟩ := hm_1713.obj et_1692
      obtain ⟨z_1728, z_1729, z_1730, z_1731, rfl⟩ := smX6 h_1727
      obtain ⟨f_1733, e_1732⟩ := hm_1713.arrI e_1697
      have u_1734 := ht_1715 _ _ u_1698
      obtain ⟨f_1736, e_1735⟩ := hm_1713.arrI e_1703
      have u_1737 := ht_1715 _ _ u_1704
      have hsm := hsm.tr (hm_1713.mono (by decide))
      have htx := htx.tr ht_1715
      obtain ⟨ts_1738, te_1739, cc_1740, ra_1741, rb_1742, rc_1743, rv_1744, re_1745, ya_1746, h1_1747, h2_1748, h3_1749, h4_1750, er_1751, et_1752, ⟨k_1753, c9_1754, t_1755, f_1756, e_1757, u_1758⟩, ⟨k_1759, c9_1760, t_1761, f_1762, e_1763, u_1764⟩⟩ := id hx_1714
      refine lv_iconst (v := 1) hx hb dX4_readTest_124 (by decide) ?_
      exact W.zret (v := 1) hx hb hr rfl (fun t ht hW => ⟨⟨1, (), rfl, Or.inr rfl, ws_1711, ty_1712, hsm, htx, by rw [ht]; exact hP, va_K.moved hW.alike hK, hD, (⟨ts_1738, te_1739, cc_1740, ra_1741, rb_1742, rc_1743, rv_1744, re_1745, ya_1746, by omega, by omega, by omega, by omega, er_1751, et_1752, ⟨k_1753, c9_1754, t_1755, f_1756, e_1757, u_1758⟩, ⟨k_1759, c9_1760, t_1761, f_1762, e_1763, u_1764⟩⟩ : RS ws_1711 ty_1712 rd krd tp ktp cd bb tl)⟩, hS.F ht⟩) hS.2.2 dX4_readTest_125
    refine lv_iconst (v := 3) hx hb dX4_readTest_41 (by decide) ?_
    refine lv_goto (tgt := 46) hx hb dX4_readTest_42 (by decide) ?_
    have hFc := free_all hD hS hA
    refine va_calli (va_runV (As := [.int 3]) (rest := []) ⟨hx, hb, hml, hown, hts⟩ (r_readNumber l D ws_46 ty_47 adK adV fo rd krd tp ktp cd bb tl 3 H.size (⟨s_66, e_67, cc_3, ra_4, rb_5, rc_6, rv_7, re_8, nI k_65, by omega, by omega, by omega, by omega, e_51, e_71, ⟨k_16, c9_17, t_18, f_60, e_59, u_61⟩, ⟨k_22, c9_23, t_24, f_63, e_62, u_64⟩⟩ : RS ws_46 ty_47 rd krd tp ktp cd bb tl)) (cwV 1 hts gX4_readTest_X4_readNumber rfl rfl rfl (by decide +kernel) ⟨Nat.le_of_ble_eq_true rfl, Nat.le_of_ble_eq_true rfl⟩) ⟨fun a U g mk q => by obtain ⟨q0, q1, qP, qK, qD, qS⟩ := q; exact ⟨q0, q1, qP, va_K.moved (u := U) (U := U.calling g mk a) (Vm.Alike.refl U.vm) qK, qD, SZ.same rfl rfl qS⟩, va_recv hK hP (ci := 4) (q0 := krd) rfl e_51, fun U hU hW => ⟨rfl, by rw [hU], by rw [hU]; exact hP, va_K.moved hW.alike hK, hD.weaken (fun _ _ _ _ => trivial), hsz9.go hS hW hU hFc⟩⟩ rfl rfl hl.1 rfl (lv_room (Nat.le_of_ble_eq_true rfl)) dX4_readTest_46 ⟨Nat.le_of_ble_eq_true rfl, Nat.le_of_ble_eq_true rfl⟩) hS (fun q _ h => hFc q h) hFc (fun r_1765 u t H1 locs ht hvm w_1766 hB hz1 hk1 hS => ?_)
    obtain ⟨ws_1767, ty_1768, hm_1769, ht_1771, hP1, hK1, hD1, hx_1770⟩ := hB
    rw [ht] at hP1
    have hK := va_K.moved hvm.symm hK1
    have hD := hD1.weaken (fun _ _ _ h => hFc _ h)
    generalize H1 = H at hP1 hS ⊢
    have hP := hP1
    obtain ⟨g_1773, e_1772, h_1774⟩ := hm_1769.obj e_51
    obtain ⟨z_1775, z_1776, z_1777, z_1778, z_1779, z_1780, rfl⟩ := smX4 h_1774
    obtain ⟨g_1782, e_1781, h_1783⟩ := hm_1769.obj e_71
    obtain ⟨z_1784, z_1785, z_1786, z_1787, rfl⟩ := smX6 h_1783
    obtain ⟨f_1789, e_1788⟩ := hm_1769.arrI e_59
    have u_1790 := ht_1771 _ _ u_61
    obtain ⟨f_1792, e_1791⟩ := hm_1769.arrI e_62
    have u_1793 := ht_1771 _ _ u_64
    have hsm := hsm.tr (hm_1769.mono (by decide))
    have htx := htx.tr ht_1771
    obtain ⟨ts_1794, te_1795, cc_1796, ra_1797, rb_1798, rc_1799, rv_1800, re_1801, ya_1802, h1_1803, h2_1804, h3_1805, h4_1806, er_1807, et_1808, ⟨k_1809, c9_1810, t_1811, f_1812, e_1813, u_1814⟩, ⟨k_1815, c9_1816, t_1817, f_1818, e_1819, u_1820⟩⟩ := id hx_1770
    rcases w_1766 with rfl | rfl
    · refine lv_if_ne (tgt := 54) hx hb dX4_readTest_49 (by decide) (fun c_1821 => absurd (by decide) c_1821) (fun c_1821 => ?_)
      refine lv_iconst (v := 0) hx hb dX4_readTest_52 (by decide) ?_
      exact W.zret (v := 0) hx hb hr rfl (fun t ht hW => ⟨⟨0, (), rfl, Or.inl rfl, ws_1767, ty_1768, hsm, htx, by rw [ht]; exact hP, va_K.moved hW.alike hK, hD, (⟨ts_1794, te_1795, cc_1796, ra_1797, rb_1798, rc_1799, rv_1800, re_1801, ya_1802, by omega, by omega, by omega, by omega, er_1807, et_1808, ⟨k_1809, c9_1810, t_1811, f_1812, e_1813, u_1814⟩, ⟨k_1815, c9_1816, t_1817, f_1818, e_1819, u_1820⟩⟩ : RS ws_1767 ty_1768 rd krd tp ktp cd bb tl)⟩, hS.F ht⟩) hS.2.2 dX4_readTest_53
    refine lv_if_ne (tgt := 54) hx hb dX4_readTest_49 (by decide) (fun c_1822 => ?_) (fun c_1822 => absurd c_1822 (by decide))
    refine lv_iload_n hx hb dX4_readTest_54 rfl (lv_at hl 0 rfl) ?_
    refine lv_aload_n hx hb dX4_readTest_55 rfl (lv_at hl 1 rfl) ?_
    refine va_get (D := D) (ci := 4) (v := .int re_1801) (C := RX4) (T := TX4) (N := 8) hx hb hts hin4 hown hK hP krd er_1807 rfl 7 (by decide) (hts (.fieldLink RX4 56 "HoneyHouse$RuleReader" "value" "I") (List.mem_of_getElem? (i := 2) rfl)) (fun _ h9 => h9) rfl dX4_readTest_56 ?_
    refine lv_iadd hx hb dX4_readTest_59 ?_
    refine lv_topi (fun z_1823 _ => ?_)
    refine lv_istore_n (lv' := [(1, .int z_1823), (0, .ref rd)]) hx hb dX4_readTest_60 rfl hl (by decide) rfl (fun ls hl => ?_)
    refine lv_aload_n hx hb dX4_readTest_61 rfl (lv_at hl 1 rfl) ?_
    refine va_get (D := D) (ci := 4) (v := .ref tp) (C := RX4) (T := TX4) (N := 8) hx hb hts hin4 hown hK hP krd er_1807 rfl 0 (by decide) (hts (.fieldLink RX4 12 "HoneyHouse$RuleReader" "tape" "LHoneyHouse$Tape;") (List.mem_of_getElem? (i := 1) rfl)) (fun _ h9 => h9) rfl dX4_readTest_62 ?_
    refine va_ldcS hx hb hown hsz9.2.2.2.2.2.2.2.2.1 dX4_readTest_65 ?_
    have hFc := free_all hD hS hA
    refine va_calli (va_runV (As := [.ref (adK 5)]) (rest := []) ⟨hx, hb, hml, hown, hts⟩ (a_isWord l D ws_1767 ty_1768 adK adV fo 5 tp ktp tl ya_1802 (nI ts_1794) (nI te_1795) bb k_1815 c9_1816 t_1817 f_1818 H.size (by decide) et_1808 e_1819 u_1820) (cwV 1 hts gX4_readTest_X6_isWord rfl rfl rfl (by decide +kernel) ⟨Nat.le_of_ble_eq_true rfl, Nat.le_of_ble_eq_true rfl⟩) ⟨fun a U g mk q => by obtain ⟨q0, q1, qP, qK, qD, qS⟩ := q; exact ⟨q0, q1, qP, va_K.moved (u := U) (U := U.calling g mk a) (Vm.Alike.refl U.vm) qK, qD, SZ.same rfl rfl qS⟩, va_recv hK hP (ci := 6) (q0 := ktp) rfl et_1808, fun U hU hW => ⟨rfl, by rw [hU], by rw [hU]; exact hP, va_K.moved hW.alike hK, hD.weaken (fun _ _ _ _ => trivial), hsz9.go hS hW hU hFc⟩⟩ rfl rfl hl.1 rfl (lv_room (Nat.le_of_ble_eq_true rfl)) dX4_readTest_67 ⟨Nat.le_of_ble_eq_true rfl, Nat.le_of_ble_eq_true rfl⟩) hS (fun q _ h => hFc q h) hFc (fun r_1824 u t H1 locs ht hvm w_1825 hB hz1 hk1 hS => ?_)
    obtain ⟨ws_1826, ty_1827, hm_1828, ht_1830, hP1, hK1, hD1, hx_1829⟩ := hB
    rw [ht] at hP1
    have hK := va_K.moved hvm.symm hK1
    have hD := hD1.weaken (fun _ _ _ h => hFc _ h)
    generalize H1 = H at hP1 hS ⊢
    have hP := hP1
    have e_1831 := hm_1828.objK er_1807 (by decide)
    have e_1832 := hm_1828.objK et_1808 (by decide)
    obtain ⟨f_1834, e_1833⟩ := hm_1828.arrI e_1813
    have u_1835 := ht_1830 _ _ u_1814
    obtain ⟨f_1837, e_1836⟩ := hm_1828.arrI e_1819
    have u_1838 := ht_1830 _ _ u_1820
    have hsm := hsm.tr (hm_1828.mono (by decide))
    have htx := htx.tr ht_1830
    rcases w_1825 with rfl | rfl
    · refine lv_istore_n (lv' := [(2, .int 0), (1, .int z_1823), (0, .ref rd)]) hx hb dX4_readTest_70 rfl hl (by decide) rfl (fun ls hl => ?_)
      refine lv_iload_n hx hb dX4_readTest_71 rfl (lv_at hl 0 rfl) ?_
      refine lv_if_ne (tgt := 92) hx hb dX4_readTest_72 (by decide) (fun c_1839 => absurd (by decide) c_1839) (fun c_1839 => ?_)
      refine lv_aload_n hx hb dX4_readTest_75 rfl (lv_at hl 2 rfl) ?_
      refine va_get (D := D) (ci := 4) (v := .ref tp) (C := RX4) (T := TX4) (N := 8) hx hb hts hin4 hown hK hP krd e_1831 rfl 0 (by decide) (hts (.fieldLink RX4 12 "HoneyHouse$RuleReader" "tape" "LHoneyHouse$Tape;") (List.mem_of_getElem? (i := 1) rfl)) (fun _ h9 => h9) rfl dX4_readTest_76 ?_
      refine va_ldcS hx hb hown hsz9.2.2.2.2.2.2.2.1 dX4_readTest_79 ?_
      have hFc := free_all hD hS hA
      refine va_calli (va_runV (As := [.ref (adK 4)]) (rest := []) ⟨hx, hb, hml, hown, hts⟩ (a_isWord l D ws_1826 ty_1827 adK adV fo 4 tp ktp tl ya_1802 (nI ts_1794) (nI te_1795) bb k_1815 c9_1816 t_1817 f_1837 H.size (by decide) e_1832 e_1836 u_1838) (cwV 1 hts gX4_readTest_X6_isWord rfl rfl rfl (by decide +kernel) ⟨Nat.le_of_ble_eq_true rfl, Nat.le_of_ble_eq_true rfl⟩) ⟨fun a U g mk q => by obtain ⟨q0, q1, qP, qK, qD, qS⟩ := q; exact ⟨q0, q1, qP, va_K.moved (u := U) (U := U.calling g mk a) (Vm.Alike.refl U.vm) qK, qD, SZ.same rfl rfl qS⟩, va_recv hK hP (ci := 6) (q0 := ktp) rfl e_1832, fun U hU hW => ⟨rfl, by rw [hU], by rw [hU]; exact hP, va_K.moved hW.alike hK, hD.weaken (fun _ _ _ _ => trivial), hsz9.go hS hW hU hFc⟩⟩ rfl rfl hl.1 rfl (lv_room (Nat.le_of_ble_eq_true rfl)) dX4_readTest_81 ⟨Nat.le_of_ble_eq_true rfl, Nat.le_of_ble_eq_true rfl⟩) hS (fun q _ h => hFc q h) hFc (fun r_1840 u t H1 locs ht hvm w_1841 hB hz1 hk1 hS => ?_)
      obtain ⟨ws_1842, ty_1843, hm_1844, ht_1846, hP1, hK1, hD1, hx_1845⟩ := hB
      rw [ht] at hP1
      have hK := va_K.moved hvm.symm hK1
      have hD := hD1.weaken (fun _ _ _ h => hFc _ h)
      generalize H1 = H at hP1 hS ⊢
      have hP := hP1
      have e_1847 := hm_1844.objK e_1831 (by decide)
      have e_1848 := hm_1844.objK e_1832 (by decide)
      obtain ⟨f_1850, e_1849⟩ := hm_1844.arrI e_1833
      have u_1851 := ht_1846 _ _ u_1835
      obtain ⟨f_1853, e_1852⟩ := hm_1844.arrI e_1836
      have u_1854 := ht_1846 _ _ u_1838
      have hsm := hsm.tr (hm_1844.mono (by decide))
      have htx := htx.tr ht_1846
      rcases w_1841 with rfl | rfl
      · refine lv_if_ne (tgt := 92) hx hb dX4_readTest_84 (by decide) (fun c_1855 => absurd (by decide) c_1855) (fun c_1855 => ?_)
        refine lv_aload_n hx hb dX4_readTest_87 rfl (lv_at hl 2 rfl) ?_
        have hFc := free_all hD hS hA
        refine va_calli (va_runV (As := []) (rest := []) ⟨hx, hb, hml, hown, hts⟩ (r_failHere l D ws_1842 ty_1843 adK adV fo rd krd tp ktp cd bb tl  H.size (⟨ts_1794, te_1795, cc_1796, ra_1797, rb_1798, rc_1799, rv_1800, re_1801, ya_1802, by omega, by omega, by omega, by omega, e_1847, e_1848, ⟨k_1809, c9_1810, t_1811, f_1850, e_1849, u_1851⟩, ⟨k_1815, c9_1816, t_1817, f_1853, e_1852, u_1854⟩⟩ : RS ws_1842 ty_1843 rd krd tp ktp cd bb tl)) (cwV 0 hts gX4_readTest_X4_failHere rfl rfl rfl (by decide +kernel) ⟨Nat.le_of_ble_eq_true rfl, Nat.le_of_ble_eq_true rfl⟩) ⟨fun a U g mk q => by obtain ⟨q0, q1, qP, qK, qD, qS⟩ := q; exact ⟨q0, q1, qP, va_K.moved (u := U) (U := U.calling g mk a) (Vm.Alike.refl U.vm) qK, qD, SZ.same rfl rfl qS⟩, va_recv hK hP (ci := 4) (q0 := krd) rfl e_1847, fun U hU hW => ⟨rfl, by rw [hU], by rw [hU]; exact hP, va_K.moved hW.alike hK, hD.weaken (fun _ _ _ _ => trivial), hsz9.go hS hW hU hFc⟩⟩ rfl rfl hl.1 rfl (lv_room (Nat.le_of_ble_eq_true rfl)) dX4_readTest_88 ⟨Nat.le_of_ble_eq_true rfl, Nat.le_of_ble_eq_true rfl⟩) hS (fun q _ h => hFc q h) hFc (fun r_1856 u t H1 locs ht hvm w_1857 hB hz1 hk1 hS => ?_)
        obtain ⟨ws_1858, ty_1859, hm_1860, ht_1862, hP1, hK1, hD1, hx_1861⟩ := hB
        rw [ht] at hP1
        have hK := va_K.moved hvm.symm hK1
        have hD := hD1.weaken (fun _ _ _ h => hFc _ h)
        generalize H1 = H at hP1 hS ⊢
        have hP := hP1
        obtain ⟨g_1864, e_1863, h_1865⟩ := hm_1860.obj e_1847
        obtain ⟨z_1866, z_1867, z_1868, z_1869, z_1870, z_1871, rfl⟩ := smX4 h_1865
        obtain ⟨g_1873, e_1872, h_1874⟩ := hm_1860.obj e_1848
        obtain ⟨z_1875, z_1876, z_1877, z_1878, rfl⟩ := smX6 h_1874
        obtain ⟨f_1880, e_1879⟩ := hm_1860.arrI e_1849
        have u_1881 := ht_1862 _ _ u_1851
        obtain ⟨f_1883, e_1882⟩ := hm_1860.arrI e_1852
        have u_1884 := ht_1862 _ _ u_1854
        have hsm := hsm.tr (hm_1860.mono (by decide))
        have htx := htx.tr ht_1862
        obtain ⟨ts_1885, te_1886, cc_1887, ra_1888, rb_1889, rc_1890, rv_1891, re_1892, ya_1893, h1_1894, h2_1895, h3_1896, h4_1897, er_1898, et_1899, ⟨k_1900, c9_1901, t_1902, f_1903, e_1904, u_1905⟩, ⟨k_1906, c9_1907, t_1908, f_1909, e_1910, u_1911⟩⟩ := id hx_1861
        subst w_1857
        exact W.zret (v := 0) hx hb hr rfl (fun t ht hW => ⟨⟨0, (), rfl, Or.inl rfl, ws_1858, ty_1859, hsm, htx, by rw [ht]; exact hP, va_K.moved hW.alike hK, hD, (⟨ts_1885, te_1886, cc_1887, ra_1888, rb_1889, rc_1890, rv_1891, re_1892, ya_1893, by omega, by omega, by omega, by omega, er_1898, et_1899, ⟨k_1900, c9_1901, t_1902, f_1903, e_1904, u_1905⟩, ⟨k_1906, c9_1907, t_1908, f_1909, e_1910, u_1911⟩⟩ : RS ws_1858 ty_1859 rd krd tp ktp cd bb tl)⟩, hS.F ht⟩) hS.2.2 dX4_readTest_91
      refine lv_if_ne (tgt := 92) hx hb dX4_readTest_84 (by decide) (fun c_1912 => ?_) (fun c_1912 => absurd c_1912 (by decide))
      refine lv_aload_n hx hb dX4_readTest_92 rfl (lv_at hl 2 rfl) ?_
      refine va_get (D := D) (ci := 4) (v := .ref tp) (C := RX4) (T := TX4) (N := 8) hx hb hts hin4 hown hK hP krd e_1847 rfl 0 (by decide) (hts (.fieldLink RX4 12 "HoneyHouse$RuleReader" "tape" "LHoneyHouse$Tape;") (List.mem_of_getElem? (i := 1) rfl)) (fun _ h9 => h9) rfl dX4_readTest_93 ?_
      have hFc := free_all hD hS hA
      refine va_callv (va_runV (As := []) (rest := []) ⟨hx, hb, hml, hown, hts⟩ (a_advance l D ws_1842 ty_1843 tp ktp tl te_1795 ya_1802 (nI ts_1794) bb k_1815 c9_1816 t_1817 f_1853 H.size (by omega) (by omega) e_1848 e_1852 u_1854) (cwV 0 hts gX4_readTest_X6_advance rfl rfl rfl (by decide +kernel) ⟨Nat.le_of_ble_eq_true rfl, Nat.le_of_ble_eq_true rfl⟩) ⟨fun a U g mk q => by obtain ⟨q0, q1, qP, qK, qD⟩ := q; exact ⟨q0, q1, qP, va_K.moved (u := U) (U := U.calling g mk a) (Vm.Alike.refl U.vm) qK, qD⟩, va_recv hK hP (ci := 6) (q0 := ktp) rfl e_1848, fun U hU hW => ⟨rfl, by rw [hU], by rw [hU]; exact hP, va_K.moved hW.alike hK, hD.weaken (fun _ _ _ _ => trivial)⟩⟩ rfl rfl hl.1 rfl (lv_room (Nat.le_of_ble_eq_true rfl)) dX4_readTest_96 ⟨Nat.le_of_ble_eq_true rfl, Nat.le_of_ble_eq_true rfl⟩) hS (fun q _ h => hFc q h) hFc (fun u t H1 locs ht hvm w_1914 hB hz1 hk1 hS => ?_)
      obtain ⟨ws_1915, ty_1916, hm_1917, ht_1919, hP1, hK1, hD1, hx_1918⟩ := hB
      rw [ht] at hP1
      have hK := va_K.moved hvm.symm hK1
      have hD := hD1.weaken (fun _ _ _ h => hFc _ h)
      generalize H1 = H at hP1 hS ⊢
      have hP := hP1
      have e_1920 := hm_1917.objK e_1847 (by decide)
      obtain ⟨g_1922, e_1921, h_1923⟩ := hm_1917.obj e_1848
      obtain ⟨z_1924, z_1925, z_1926, z_1927, rfl⟩ := smX6 h_1923
      obtain ⟨f_1929, e_1928⟩ := hm_1917.arrI e_1849
      have u_1930 := ht_1919 _ _ u_1851
      obtain ⟨f_1932, e_1931⟩ := hm_1917.arrI e_1852
      have u_1933 := ht_1919 _ _ u_1854
      have hsm := hsm.tr (hm_1917.mono (by decide))
      have htx := htx.tr ht_1919
      obtain ⟨k_1934, s_1935, e_1936, h_1937, h_1938, h_1939, e_1940⟩ := hx_1918
      refine lv_aload_n hx hb dX4_readTest_99 rfl (lv_at hl 2 rfl) ?_
      refine lv_sipush (v := 1000) hx hb dX4_readTest_100 (by decide) ?_
      have hFc := free_all hD hS hA
      refine va_calli (va_runV (As := [.int 1000]) (rest := []) ⟨hx, hb, hml, hown, hts⟩ (r_readNumber l D ws_1915 ty_1916 adK adV fo rd krd tp ktp cd bb tl 1000 H.size (⟨s_1935, e_1936, cc_1796, ra_1797, rb_1798, rc_1799, rv_1800, re_1801, nI k_1934, by omega, by omega, by omega, by omega, e_1920, e_1940, ⟨k_1809, c9_1810, t_1811, f_1929, e_1928, u_1930⟩, ⟨k_1815, c9_1816, t_1817, f_1932, e_1931, u_1933⟩⟩ : RS ws_1915 ty_1916 rd krd tp ktp cd bb tl)) (cwV 1 hts gX4_readTest_X4_readNumber rfl rfl rfl (by decide +kernel) ⟨Nat.le_of_ble_eq_true rfl, Nat.le_of_ble_eq_true rfl⟩) ⟨fun a U g mk q => by obtain ⟨q0, q1, qP, qK, qD, qS⟩ := q; exact ⟨q0, q1, qP, va_K.moved (u := U) (U := U.calling g mk a) (Vm.Alike.refl U.vm) qK, qD, SZ.same rfl rfl qS⟩, va_recv hK hP (ci := 4) (q0 := krd) rfl e_1920, fun U hU hW => ⟨rfl, by rw [hU], by rw [hU]; exact hP, va_K.moved hW.alike hK, hD.weaken (fun _ _ _ _ => trivial), hsz9.go hS hW hU hFc⟩⟩ rfl rfl hl.1 rfl (lv_room (Nat.le_of_ble_eq_true rfl)) dX4_readTest_103 ⟨Nat.le_of_ble_eq_true rfl, Nat.le_of_ble_eq_true rfl⟩) hS (fun q _ h => hFc q h) hFc (fun r_1941 u t H1 locs ht hvm w_1942 hB hz1 hk1 hS => ?_)
      obtain ⟨ws_1943, ty_1944, hm_1945, ht_1947, hP1, hK1, hD1, hx_1946⟩ := hB
      rw [ht] at hP1
      have hK := va_K.moved hvm.symm hK1
      have hD := hD1.weaken (fun _ _ _ h => hFc _ h)
      generalize H1 = H at hP1 hS ⊢
      have hP := hP1
      obtain ⟨g_1949, e_1948, h_1950⟩ := hm_1945.obj e_1920
      obtain ⟨z_1951, z_1952, z_1953, z_1954, z_1955, z_1956, rfl⟩ := smX4 h_1950
      obtain ⟨g_1958, e_1957, h_1959⟩ := hm_1945.obj e_1940
      obtain ⟨z_1960, z_1961, z_1962, z_1963, rfl⟩ := smX6 h_1959
      obtain ⟨f_1965, e_1964⟩ := hm_1945.arrI e_1928
      have u_1966 := ht_1947 _ _ u_1930
      obtain ⟨f_1968, e_1967⟩ := hm_1945.arrI e_1931
      have u_1969 := ht_1947 _ _ u_1933
      have hsm := hsm.tr (hm_1945.mono (by decide))
      have htx := htx.tr ht_1947
      obtain ⟨ts_1970, te_1971, cc_1972, ra_1973, rb_1974, rc_1975, rv_1976, re_1977, ya_1978, h1_1979, h2_1980, h3_1981, h4_1982, er_1983, et_1984, ⟨k_1985, c9_1986, t_1987, f_1988, e_1989, u_1990⟩, ⟨k_1991, c9_1992, t_1993, f_1994, e_1995, u_1996⟩⟩ := id hx_1946
      rcases w_1942 with rfl | rfl
      · refine lv_if_ne (tgt := 111) hx hb dX4_readTest_106 (by decide) (fun c_1997 => absurd (by decide) c_1997) (fun c_1997 => ?_)
        refine lv_iconst (v := 0) hx hb dX4_readTest_109 (by decide) ?_
        exact W.zret (v := 0) hx hb hr rfl (fun t ht hW => ⟨⟨0, (), rfl, Or.inl rfl, ws_1943, ty_1944, hsm, htx, by rw [ht]; exact hP, va_K.moved hW.alike hK, hD, (⟨ts_1970, te_1971, cc_1972, ra_1973, rb_1974, rc_1975, rv_1976, re_1977, ya_1978, by omega, by omega, by omega, by omega, er_1983, et_1984, ⟨k_1985, c9_1986, t_1987, f_1988, e_1989, u_1990⟩, ⟨k_1991, c9_1992, t_1993, f_1994, e_1995, u_1996⟩⟩ : RS ws_1943 ty_1944 rd krd tp ktp cd bb tl)⟩, hS.F ht⟩) hS.2.2 dX4_readTest_110
      refine lv_if_ne (tgt := 111) hx hb dX4_readTest_106 (by decide) (fun c_1998 => ?_) (fun c_1998 => absurd c_1998 (by decide))
      refine lv_aload_n hx hb dX4_readTest_111 rfl (lv_at hl 2 rfl) ?_
      refine lv_iload_n hx hb dX4_readTest_112 rfl (lv_at hl 1 rfl) ?_
      refine lv_iload_n hx hb dX4_readTest_113 rfl (lv_at hl 0 rfl) ?_
      refine lv_aload_n hx hb dX4_readTest_114 rfl (lv_at hl 2 rfl) ?_
      refine va_get (D := D) (ci := 4) (v := .int re_1977) (C := RX4) (T := TX4) (N := 8) hx hb hts hin4 hown hK hP krd er_1983 rfl 7 (by decide) (hts (.fieldLink RX4 56 "HoneyHouse$RuleReader" "value" "I") (List.mem_of_getElem? (i := 2) rfl)) (fun _ h9 => h9) rfl dX4_readTest_115 ?_
      refine vp_callSi (W.runS (As := [.int z_1823, .int 0, .int re_1977]) (rest := [.ref rd]) ⟨hx, hb, hml, hown, hts⟩ (s_testCode l z_1823 0 re_1977) (va_cwS 3 hts gX4_readTest_X4_testCode rfl rfl rfl (by decide +kernel) ⟨Nat.le_of_ble_eq_true rfl, Nat.le_of_ble_eq_true rfl⟩) ⟨fun a U g mk q => q, fun U hU hW => ⟨rfl, trivial⟩⟩ rfl rfl hl.1 rfl (lv_room (Nat.le_of_ble_eq_true rfl)) dX4_readTest_118 ⟨Nat.le_of_ble_eq_true rfl, Nat.le_of_ble_eq_true rfl⟩) (fun r_1999 k_2000 => ?_)
      have hFc := free_all hD hS hA
      refine va_callv (va_runV (As := [.int r_1999]) (rest := []) ⟨hx, hb, hml, hown, hts⟩ (r_addCode l D ws_1943 ty_1944 adK adV fo rd krd tp ktp cd bb tl r_1999 H.size (⟨ts_1970, te_1971, cc_1972, ra_1973, rb_1974, rc_1975, rv_1976, re_1977, ya_1978, by omega, by omega, by omega, by omega, er_1983, et_1984, ⟨k_1985, c9_1986, t_1987, f_1988, e_1989, u_1990⟩, ⟨k_1991, c9_1992, t_1993, f_1994, e_1995, u_1996⟩⟩ : RS ws_1943 ty_1944 rd krd tp ktp cd bb tl)) (cwV 1 hts gX4_readTest_X4_addCode rfl rfl rfl (by decide +kernel) ⟨Nat.le_of_ble_eq_true rfl, Nat.le_of_ble_eq_true rfl⟩) ⟨fun a U g mk q => by obtain ⟨q0, q1, qP, qK, qD, qS⟩ := q; exact ⟨q0, q1, qP, va_K.moved (u := U) (U := U.calling g mk a) (Vm.Alike.refl U.vm) qK, qD, SZ.same rfl rfl qS⟩, va_recv hK hP (ci := 4) (q0 := krd) rfl er_1983, fun U hU hW => ⟨rfl, by rw [hU], by rw [hU]; exact hP, va_K.moved hW.alike hK, hD.weaken (fun _ _ _ _ => trivial), hsz9.go hS hW hU hFc⟩⟩ rfl rfl hl.1 rfl (lv_room (Nat.le_of_ble_eq_true rfl)) dX4_readTest_121 ⟨Nat.le_of_ble_eq_true rfl, Nat.le_of_ble_eq_true rfl⟩) hS (fun q _ h => hFc q h) hFc (fun u t H1 locs ht hvm w_2002 hB hz1 hk1 hS => ?_)
      obtain ⟨ws_2003, ty_2004, hm_2005, ht_2007, hP1, hK1, hD1, hx_2006⟩ := hB
      rw [ht] at hP1
      have hK := va_K.moved hvm.symm hK1
      have hD := hD1.weaken (fun _ _ _ h => hFc _ h)
      generalize H1 = H at hP1 hS ⊢
      have hP := hP1
      obtain ⟨g_2009, e_2008, h_2010⟩ := hm_2005.obj er_1983
      obtain ⟨z_2011, z_2012, z_2013, z_2014, z_2015, z_2016, rfl⟩ := smX4 h_2010
      obtain ⟨g_2018, e_2017, h_2019⟩ := hm_2005.obj et_1984
      obtain ⟨z_2020, z_2021, z_2022, z_2023, rfl⟩ := smX6 h_2019
      obtain ⟨f_2025, e_2024⟩ := hm_2005.arrI e_1989
      have u_2026 := ht_2007 _ _ u_1990
      obtain ⟨f_2028, e_2027⟩ := hm_2005.arrI e_1995
      have u_2029 := ht_2007 _ _ u_1996
      have hsm := hsm.tr (hm_2005.mono (by decide))
      have htx := htx.tr ht_2007
      obtain ⟨ts_2030, te_2031, cc_2032, ra_2033, rb_2034, rc_2035, rv_2036, re_2037, ya_2038, h1_2039, h2_2040, h3_2041, h4_2042, er_2043, et_2044, ⟨k_2045, c9_2046, t_2047, f_2048, e_2049, u_2050⟩, ⟨k_2051, c9_2052, t_2053, f_2054, e_2055, u_2056⟩⟩ := id hx_2006
      refine lv_iconst (v := 1) hx hb dX4_readTest_124 (by decide) ?_
      exact W.zret (v := 1) hx hb hr rfl (fun t ht hW => ⟨⟨1, (), rfl, Or.inr rfl, ws_2003, ty_2004, hsm, htx, by rw [ht]; exact hP, va_K.moved hW.alike hK, hD, (⟨ts_2030, te_2031, cc_2032, ra_2033, rb_2034, rc_2035, rv_2036, re_2037, ya_2038, by omega, by omega, by omega, by omega, er_2043, et_2044, ⟨k_2045, c9_2046, t_2047, f_2048, e_2049, u_2050⟩, ⟨k_2051, c9_2052, t_2053, f_2054, e_2055, u_2056⟩⟩ : RS ws_2003 ty_2004 rd krd tp ktp cd bb tl)⟩, hS.F ht⟩) hS.2.2 dX4_readTest_125
    refine lv_istore_n (lv' := [(2, .int 1), (1, .int z_1823), (0, .ref rd)]) hx hb dX4_readTest_70 rfl hl (by decide) rfl (fun ls hl => ?_)
    refine lv_iload_n hx hb dX4_readTest_71 rfl (lv_at hl 0 rfl) ?_
    refine lv_if_ne (tgt := 92) hx hb dX4_readTest_72 (by decide) (fun c_2057 => ?_) (fun c_2057 => absurd c_2057 (by decide))
    refine lv_aload_n hx hb dX4_readTest_92 rfl (lv_at hl 2 rfl) ?_
    refine va_get (D := D) (ci := 4) (v := .ref tp) (C := RX4) (T := TX4) (N := 8) hx hb hts hin4 hown hK hP krd e_1831 rfl 0 (by decide) (hts (.fieldLink RX4 12 "HoneyHouse$RuleReader" "tape" "LHoneyHouse$Tape;") (List.mem_of_getElem? (i := 1) rfl)) (fun _ h9 => h9) rfl dX4_readTest_93 ?_
    have hFc := free_all hD hS hA
    refine va_callv (va_runV (As := []) (rest := []) ⟨hx, hb, hml, hown, hts⟩ (a_advance l D ws_1826 ty_1827 tp ktp tl te_1795 ya_1802 (nI ts_1794) bb k_1815 c9_1816 t_1817 f_1837 H.size (by omega) (by omega) e_1832 e_1836 u_1838) (cwV 0 hts gX4_readTest_X6_advance rfl rfl rfl (by decide +kernel) ⟨Nat.le_of_ble_eq_true rfl, Nat.le_of_ble_eq_true rfl⟩) ⟨fun a U g mk q => by obtain ⟨q0, q1, qP, qK, qD⟩ := q; exact ⟨q0, q1, qP, va_K.moved (u := U) (U := U.calling g mk a) (Vm.Alike.refl U.vm) qK, qD⟩, va_recv hK hP (ci := 6) (q0 := ktp) rfl e_1832, fun U hU hW => ⟨rfl, by rw [hU], by rw [hU]; exact hP, va_K.moved hW.alike hK, hD.weaken (fun _ _ _ _ => trivial)⟩⟩ rfl rfl hl.1 rfl (lv_room (Nat.le_of_ble_eq_true rfl)) dX4_readTest_96 ⟨Nat.le_of_ble_eq_true rfl, Nat.le_of_ble_eq_true rfl⟩) hS (fun q _ h => hFc q h) hFc (fun u t H1 locs ht hvm w_2059 hB hz1 hk1 hS => ?_)
    obtain ⟨ws_2060, ty_2061, hm_2062, ht_2064, hP1, hK1, hD1, hx_2063⟩ := hB
    rw [ht] at hP1
    have hK := va_K.moved hvm.symm hK1
    have hD := hD1.weaken (fun _ _ _ h => hFc _ h)
    generalize H1 = H at hP1 hS ⊢
    have hP := hP1
    have e_2065 := hm_2062.objK e_1831 (by decide)
    obtain ⟨g_2067, e_2066, h_2068⟩ := hm_2062.obj e_1832
    obtain ⟨z_2069, z_2070, z_2071, z_2072, rfl⟩ := smX6 h_2068
    obtain ⟨f_2074, e_2073⟩ := hm_2062.arrI e_1833
    have u_2075 := ht_2064 _ _ u_1835
    obtain ⟨f_2077, e_2076⟩ := hm_2062.arrI e_1836
    have u_2078 := ht_2064 _ _ u_1838
    have hsm := hsm.tr (hm_2062.mono (by decide))
    have htx := htx.tr ht_2064
    obtain ⟨k_2079, s_2080, e_2081, h_2082, h_2083, h_2084, e_2085⟩ := hx_2063
    refine lv_aload_n hx hb dX4_readTest_99 rfl (lv_at hl 2 rfl) ?_
    refine lv_sipush (v := 1000) hx hb dX4_readTest_100 (by decide) ?_
    have hFc := free_all hD hS hA
    refine va_calli (va_runV (As := [.int 1000]) (rest := []) ⟨hx, hb, hml, hown, hts⟩ (r_readNumber l D ws_2060 ty_2061 adK adV fo rd krd tp ktp cd bb tl 1000 H.size (⟨s_2080, e_2081, cc_1796, ra_1797, rb_1798, rc_1799, rv_1800, re_1801, nI k_2079, by omega, by omega, by omega, by omega, e_2065, e_2085, ⟨k_1809, c9_1810, t_1811, f_2074, e_2073, u_2075⟩, ⟨k_1815, c9_1816, t_1817, f_2077, e_2076, u_2078⟩⟩ : RS ws_2060 ty_2061 rd krd tp ktp cd bb tl)) (cwV 1 hts gX4_readTest_X4_readNumber rfl rfl rfl (by decide +kernel) ⟨Nat.le_of_ble_eq_true rfl, Nat.le_of_ble_eq_true rfl⟩) ⟨fun a U g mk q => by obtain ⟨q0, q1, qP, qK, qD, qS⟩ := q; exact ⟨q0, q1, qP, va_K.moved (u := U) (U := U.calling g mk a) (Vm.Alike.refl U.vm) qK, qD, SZ.same rfl rfl qS⟩, va_recv hK hP (ci := 4) (q0 := krd) rfl e_2065, fun U hU hW => ⟨rfl, by rw [hU], by rw [hU]; exact hP, va_K.moved hW.alike hK, hD.weaken (fun _ _ _ _ => trivial), hsz9.go hS hW hU hFc⟩⟩ rfl rfl hl.1 rfl (lv_room (Nat.le_of_ble_eq_true rfl)) dX4_readTest_103 ⟨Nat.le_of_ble_eq_true rfl, Nat.le_of_ble_eq_true rfl⟩) hS (fun q _ h => hFc q h) hFc (fun r_2086 u t H1 locs ht hvm w_2087 hB hz1 hk1 hS => ?_)
    obtain ⟨ws_2088, ty_2089, hm_2090, ht_2092, hP1, hK1, hD1, hx_2091⟩ := hB
    rw [ht] at hP1
    have hK := va_K.moved hvm.symm hK1
    have hD := hD1.weaken (fun _ _ _ h => hFc _ h)
    generalize H1 = H at hP1 hS ⊢
    have hP := hP1
    obtain ⟨g_2094, e_2093, h_2095⟩ := hm_2090.obj e_2065
    obtain ⟨z_2096, z_2097, z_2098, z_2099, z_2100, z_2101, rfl⟩ := smX4 h_2095
    obtain ⟨g_2103, e_2102, h_2104⟩ := hm_2090.obj e_2085
    obtain ⟨z_2105, z_2106, z_2107, z_2108, rfl⟩ := smX6 h_2104
    obtain ⟨f_2110, e_2109⟩ := hm_2090.arrI e_2073
    have u_2111 := ht_2092 _ _ u_2075
    obtain ⟨f_2113, e_2112⟩ := hm_2090.arrI e_2076
    have u_2114 := ht_2092 _ _ u_2078
    have hsm := hsm.tr (hm_2090.mono (by decide))
    have htx := htx.tr ht_2092
    obtain ⟨ts_2115, te_2116, cc_2117, ra_2118, rb_2119, rc_2120, rv_2121, re_2122, ya_2123, h1_2124, h2_2125, h3_2126, h4_2127, er_2128, et_2129, ⟨k_2130, c9_2131, t_2132, f_2133, e_2134, u_2135⟩, ⟨k_2136, c9_2137, t_2138, f_2139, e_2140, u_2141⟩⟩ := id hx_2091
    rcases w_2087 with rfl | rfl
    · refine lv_if_ne (tgt := 111) hx hb dX4_readTest_106 (by decide) (fun c_2142 => absurd (by decide) c_2142) (fun c_2142 => ?_)
      refine lv_iconst (v := 0) hx hb dX4_readTest_109 (by decide) ?_
      exact W.zret (v := 0) hx hb hr rfl (fun t ht hW => ⟨⟨0, (), rfl, Or.inl rfl, ws_2088, ty_2089, hsm, htx, by rw [ht]; exact hP, va_K.moved hW.alike hK, hD, (⟨ts_2115, te_2116, cc_2117, ra_2118, rb_2119, rc_2120, rv_2121, re_2122, ya_2123, by omega, by omega, by omega, by omega, er_2128, et_2129, ⟨k_2130, c9_2131, t_2132, f_2133, e_2134, u_2135⟩, ⟨k_2136, c9_2137, t_2138, f_2139, e_2140, u_2141⟩⟩ : RS ws_2088 ty_2089 rd krd tp ktp cd bb tl)⟩, hS.F ht⟩) hS.2.2 dX4_readTest_110
    refine lv_if_ne (tgt := 111) hx hb dX4_readTest_106 (by decide) (fun c_2143 => ?_) (fun c_2143 => absurd c_2143 (by decide))
    refine lv_aload_n hx hb dX4_readTest_111 rfl (lv_at hl 2 rfl) ?_
    refine lv_iload_n hx hb dX4_readTest_112 rfl (lv_at hl 1 rfl) ?_
    refine lv_iload_n hx hb dX4_readTest_113 rfl (lv_at hl 0 rfl) ?_
    refine lv_aload_n hx hb dX4_readTest_114 rfl (lv_at hl 2 rfl) ?_
    refine va_get (D := D) (ci := 4) (v := .int re_2122) (C := RX4) (T := TX4) (N := 8) hx hb hts hin4 hown hK hP krd er_2128 rfl 7 (by decide) (hts (.fieldLink RX4 56 "HoneyHouse$RuleReader" "value" "I") (List.mem_of_getElem? (i := 2) rfl)) (fun _ h9 => h9) rfl dX4_readTest_115 ?_
    refine vp_callSi (W.runS (As := [.int z_1823, .int 1, .int re_2122]) (rest := [.ref rd]) ⟨hx, hb, hml, hown, hts⟩ (s_testCode l z_1823 1 re_2122) (va_cwS 3 hts gX4_readTest_X4_testCode rfl rfl rfl (by decide +kernel) ⟨Nat.le_of_ble_eq_true rfl, Nat.le_of_ble_eq_true rfl⟩) ⟨fun a U g mk q => q, fun U hU hW => ⟨rfl, trivial⟩⟩ rfl rfl hl.1 rfl (lv_room (Nat.le_of_ble_eq_true rfl)) dX4_readTest_118 ⟨Nat.le_of_ble_eq_true rfl, Nat.le_of_ble_eq_true rfl⟩) (fun r_2144 k_2145 => ?_)
    have hFc := free_all hD hS hA
    refine va_callv (va_runV (As := [.int r_2144]) (rest := []) ⟨hx, hb, hml, hown, hts⟩ (r_addCode l D ws_2088 ty_2089 adK adV fo rd krd tp ktp cd bb tl r_2144 H.size (⟨ts_2115, te_2116, cc_2117, ra_2118, rb_2119, rc_2120, rv_2121, re_2122, ya_2123, by omega, by omega, by omega, by omega, er_2128, et_2129, ⟨k_2130, c9_2131, t_2132, f_2133, e_2134, u_2135⟩, ⟨k_2136, c9_2137, t_2138, f_2139, e_2140, u_2141⟩⟩ : RS ws_2088 ty_2089 rd krd tp ktp cd bb tl)) (cwV 1 hts gX4_readTest_X4_addCode rfl rfl rfl (by decide +kernel) ⟨Nat.le_of_ble_eq_true rfl, Nat.le_of_ble_eq_true rfl⟩) ⟨fun a U g mk q => by obtain ⟨q0, q1, qP, qK, qD, qS⟩ := q; exact ⟨q0, q1, qP, va_K.moved (u := U) (U := U.calling g mk a) (Vm.Alike.refl U.vm) qK, qD, SZ.same rfl rfl qS⟩, va_recv hK hP (ci := 4) (q0 := krd) rfl er_2128, fun U hU hW => ⟨rfl, by rw [hU], by rw [hU]; exact hP, va_K.moved hW.alike hK, hD.weaken (fun _ _ _ _ => trivial), hsz9.go hS hW hU hFc⟩⟩ rfl rfl hl.1 rfl (lv_room (Nat.le_of_ble_eq_true rfl)) dX4_readTest_121 ⟨Nat.le_of_ble_eq_true rfl, Nat.le_of_ble_eq_true rfl⟩) hS (fun q _ h => hFc q h) hFc (fun u t H1 locs ht hvm w_2147 hB hz1 hk1 hS => ?_)
    obtain ⟨ws_2148, ty_2149, hm_2150, ht_2152, hP1, hK1, hD1, hx_2151⟩ := hB
    rw [ht] at hP1
    have hK := va_K.moved hvm.symm hK1
    have hD := hD1.weaken (fun _ _ _ h => hFc _ h)
    generalize H1 = H at hP1 hS ⊢
    have hP := hP1
    obtain ⟨g_2154, e_2153, h_2155⟩ := hm_2150.obj er_2128
    obtain ⟨z_2156, z_2157, z_2158, z_2159, z_2160, z_2161, rfl⟩ := smX4 h_2155
    obtain ⟨g_2163, e_2162, h_2164⟩ := hm_2150.obj et_2129
    obtain ⟨z_2165, z_2166, z_2167, z_2168, rfl⟩ := smX6 h_2164
    obtain ⟨f_2170, e_2169⟩ := hm_2150.arrI e_2134
    have u_2171 := ht_2152 _ _ u_2135
    obtain ⟨f_2173, e_2172⟩ := hm_2150.arrI e_2140
    have u_2174 := ht_2152 _ _ u_2141
    have hsm := hsm.tr (hm_2150.mono (by decide))
    have htx := htx.tr ht_2152
    obtain ⟨ts_2175, te_2176, cc_2177, ra_2178, rb_2179, rc_2180, rv_2181, re_2182, ya_2183, h1_2184, h2_2185, h3_2186, h4_2187, er_2188, et_2189, ⟨k_2190, c9_2191, t_2192, f_2193, e_2194, u_2195⟩, ⟨k_2196, c9_2197, t_2198, f_2199, e_2200, u_2201⟩⟩ := id hx_2151
    refine lv_iconst (v := 1) hx hb dX4_readTest_124 (by decide) ?_
    exact W.zret (v := 1) hx hb hr rfl (fun t ht hW => ⟨⟨1, (), rfl, Or.inr rfl, ws_2148, ty_2149, hsm, htx, by rw [ht]; exact hP, va_K.moved hW.alike hK, hD, (⟨ts_2175, te_2176, cc_2177, ra_2178, rb_2179, rc_2180, rv_2181, re_2182, ya_2183, by omega, by omega, by omega, by omega, er_2188, et_2189, ⟨k_2190, c9_2191, t_2192, f_2193, e_2194, u_2195⟩, ⟨k_2196, c9_2197, t_2198, f_2199, e_2200, u_2201⟩⟩ : RS ws_2148 ty_2149 rd krd tp ktp cd bb tl)⟩, hS.F ht⟩) hS.2.2 dX4_readTest_125
  refine lv_aload_n hx hb dX4_readTest_10 rfl (lv_at hl 1 rfl) ?_
  have hFc := free_all hD hS hA
  refine va_calli (va_runV (As := []) (rest := []) ⟨hx, hb, hml, hown, hts⟩ (r_failHere l D ws_30 ty_31 adK adV fo rd krd tp ktp cd bb tl  H.size (⟨ts_1, te_2, cc_3, ra_4, rb_5, rc_6, rv_7, re_8, ya_9, by omega, by omega, by omega, by omega, e_35, e_36, ⟨k_16, c9_17, t_18, f_38, e_37, u_39⟩, ⟨k_22, c9_23, t_24, f_41, e_40, u_42⟩⟩ : RS ws_30 ty_31 rd krd tp ktp cd bb tl)) (cwV 0 hts gX4_readTest_X4_failHere rfl rfl rfl (by decide +kernel) ⟨Nat.le_of_ble_eq_true rfl, Nat.le_of_ble_eq_true rfl⟩) ⟨fun a U g mk q => by obtain ⟨q0, q1, qP, qK, qD, qS⟩ := q; exact ⟨q0, q1, qP, va_K.moved (u := U) (U := U.calling g mk a) (Vm.Alike.refl U.vm) qK, qD, SZ.same rfl rfl qS⟩, va_recv hK hP (ci := 4) (q0 := krd) rfl e_35, fun U hU hW => ⟨rfl, by rw [hU], by rw [hU]; exact hP, va_K.moved hW.alike hK, hD.weaken (fun _ _ _ _ => trivial), hsz9.go hS hW hU hFc⟩⟩ rfl rfl hl.1 rfl (lv_room (Nat.le_of_ble_eq_true rfl)) dX4_readTest_11 ⟨Nat.le_of_ble_eq_true rfl, Nat.le_of_ble_eq_true rfl⟩) hS (fun q _ h => hFc q h) hFc (fun r_2202 u t H1 locs ht hvm w_2203 hB hz1 hk1 hS => ?_)
  obtain ⟨ws_2204, ty_2205, hm_2206, ht_2208, hP1, hK1, hD1, hx_2207⟩ := hB
  rw [ht] at hP1
  have hK := va_K.moved hvm.symm hK1
  have hD := hD1.weaken (fun _ _ _ h => hFc _ h)
  generalize H1 = H at hP1 hS ⊢
  have hP := hP1
  obtain ⟨g_2210, e_2209, h_2211⟩ := hm_2206.obj e_35
  obtain ⟨z_2212, z_2213, z_2214, z_2215, z_2216, z_2217, rfl⟩ := smX4 h_2211
  obtain ⟨g_2219, e_2218, h_2220⟩ := hm_2206.obj e_36
  obtain ⟨z_2221, z_2222, z_2223, z_2224, rfl⟩ := smX6 h_2220
  obtain ⟨f_2226, e_2225⟩ := hm_2206.arrI e_37
  have u_2227 := ht_2208 _ _ u_39
  obtain ⟨f_2229, e_2228⟩ := hm_2206.arrI e_40
  have u_2230 := ht_2208 _ _ u_42
  have hsm := hsm.tr (hm_2206.mono (by decide))
  have htx := htx.tr ht_2208
  obtain ⟨ts_2231, te_2232, cc_2233, ra_2234, rb_2235, rc_2236, rv_2237, re_2238, ya_2239, h1_2240, h2_2241, h3_2242, h4_2243, er_2244, et_2245, ⟨k_2246, c9_2247, t_2248, f_2249, e_2250, u_2251⟩, ⟨k_2252, c9_2253, t_2254, f_2255, e_2256, u_2257⟩⟩ := id hx_2207
  subst w_2203
  exact W.zret (v := 0) hx hb hr rfl (fun t ht hW => ⟨⟨0, (), rfl, Or.inl rfl, ws_2204, ty_2205, hsm, htx, by rw [ht]; exact hP, va_K.moved hW.alike hK, hD, (⟨ts_2231, te_2232, cc_2233, ra_2234, rb_2235, rc_2236, rv_2237, re_2238, ya_2239, by omega, by omega, by omega, by omega, er_2244, et_2245, ⟨k_2246, c9_2247, t_2248, f_2249, e_2250, u_2251⟩, ⟨k_2252, c9_2253, t_2254, f_2255, e_2256, u_2257⟩⟩ : RS ws_2204 ty_2205 rd krd tp ktp cd bb tl)⟩, hS.F ht⟩) hS.2.2 dX4_readTest_14
