theorem dX4_failAt_0 : decode cX4_failAt 0 = .ok (.aload_n 0, 1) := by decide +kernel
theorem dX4_failAt_1 : decode cX4_failAt 1 = .ok (.iload_n 1, 1) := by decide +kernel
theorem dX4_failAt_2 : decode cX4_failAt 2 = .ok (.putfield 26, 3) := by decide +kernel
theorem dX4_failAt_5 : decode cX4_failAt 5 = .ok (.aload_n 0, 1) := by decide +kernel
theorem dX4_failAt_6 : decode cX4_failAt 6 = .ok (.iload_n 2, 1) := by decide +kernel
theorem dX4_failAt_7 : decode cX4_failAt 7 = .ok (.putfield 18, 3) := by decide +kernel
theorem dX4_failAt_10 : decode cX4_failAt 10 = .ok (.iconst 0, 1) := by decide +kernel
theorem dX4_failAt_11 : decode cX4_failAt 11 = .ok (.ireturn, 1) := by decide +kernel
theorem dX4_failHere_0 : decode cX4_failHere 0 = .ok (.aload_n 0, 1) := by decide +kernel
theorem dX4_failHere_1 : decode cX4_failHere 1 = .ok (.iconst 1, 1) := by decide +kernel
theorem dX4_failHere_2 : decode cX4_failHere 2 = .ok (.aload_n 0, 1) := by decide +kernel
theorem dX4_failHere_3 : decode cX4_failHere 3 = .ok (.getfield 12, 3) := by decide +kernel
theorem dX4_failHere_6 : decode cX4_failHere 6 = .ok (.getfield 73, 3) := by decide +kernel
theorem dX4_failHere_9 : decode cX4_failHere 9 = .ok (.invokevirtual 76, 3) := by decide +kernel
theorem dX4_failHere_12 : decode cX4_failHere 12 = .ok (.ireturn, 1) := by decide +kernel
theorem dX4_measureNamed_0 : decode cX4_measureNamed 0 = .ok (.aload_n 0, 1) := by decide +kernel
theorem dX4_measureNamed_1 : decode cX4_measureNamed 1 = .ok (.getfield 12, 3) := by decide +kernel
theorem dX4_measureNamed_4 : decode cX4_measureNamed 4 = .ok (.ldc 137, 2) := by decide +kernel
theorem dX4_measureNamed_6 : decode cX4_measureNamed 6 = .ok (.invokevirtual 99, 3) := by decide +kernel
theorem dX4_measureNamed_9 : decode cX4_measureNamed 9 = .ok (.ifCond .eq 5, 3) := by decide +kernel
theorem dX4_measureNamed_12 : decode cX4_measureNamed 12 = .ok (.iconst 0, 1) := by decide +kernel
theorem dX4_measureNamed_13 : decode cX4_measureNamed 13 = .ok (.ireturn, 1) := by decide +kernel
theorem dX4_measureNamed_14 : decode cX4_measureNamed 14 = .ok (.aload_n 0, 1) := by decide +kernel
theorem dX4_measureNamed_15 : decode cX4_measureNamed 15 = .ok (.getfield 12, 3) := by decide +kernel
theorem dX4_measureNamed_18 : decode cX4_measureNamed 18 = .ok (.ldc 139, 2) := by decide +kernel
theorem dX4_measureNamed_20 : decode cX4_measureNamed 20 = .ok (.invokevirtual 99, 3) := by decide +kernel
theorem dX4_measureNamed_23 : decode cX4_measureNamed 23 = .ok (.ifCond .eq 5, 3) := by decide +kernel
theorem dX4_measureNamed_26 : decode cX4_measureNamed 26 = .ok (.iconst 1, 1) := by decide +kernel
theorem dX4_measureNamed_27 : decode cX4_measureNamed 27 = .ok (.ireturn, 1) := by decide +kernel
theorem dX4_measureNamed_28 : decode cX4_measureNamed 28 = .ok (.aload_n 0, 1) := by decide +kernel
theorem dX4_measureNamed_29 : decode cX4_measureNamed 29 = .ok (.getfield 12, 3) := by decide +kernel
theorem dX4_measureNamed_32 : decode cX4_measureNamed 32 = .ok (.ldc 141, 2) := by decide +kernel
theorem dX4_measureNamed_34 : decode cX4_measureNamed 34 = .ok (.invokevirtual 99, 3) := by decide +kernel
theorem dX4_measureNamed_37 : decode cX4_measureNamed 37 = .ok (.ifCond .eq 5, 3) := by decide +kernel
theorem dX4_measureNamed_40 : decode cX4_measureNamed 40 = .ok (.iconst 2, 1) := by decide +kernel
theorem dX4_measureNamed_41 : decode cX4_measureNamed 41 = .ok (.ireturn, 1) := by decide +kernel
theorem dX4_measureNamed_42 : decode cX4_measureNamed 42 = .ok (.aload_n 0, 1) := by decide +kernel
theorem dX4_measureNamed_43 : decode cX4_measureNamed 43 = .ok (.getfield 12, 3) := by decide +kernel
theorem dX4_measureNamed_46 : decode cX4_measureNamed 46 = .ok (.ldc 143, 2) := by decide +kernel
theorem dX4_measureNamed_48 : decode cX4_measureNamed 48 = .ok (.invokevirtual 99, 3) := by decide +kernel
theorem dX4_measureNamed_51 : decode cX4_measureNamed 51 = .ok (.ifCond .eq 6, 3) := by decide +kernel
theorem dX4_measureNamed_54 : decode cX4_measureNamed 54 = .ok (.bipush 10, 2) := by decide +kernel
theorem dX4_measureNamed_56 : decode cX4_measureNamed 56 = .ok (.ireturn, 1) := by decide +kernel
theorem dX4_measureNamed_57 : decode cX4_measureNamed 57 = .ok (.aload_n 0, 1) := by decide +kernel
theorem dX4_measureNamed_58 : decode cX4_measureNamed 58 = .ok (.getfield 12, 3) := by decide +kernel
theorem dX4_measureNamed_61 : decode cX4_measureNamed 61 = .ok (.ldc 145, 2) := by decide +kernel
theorem dX4_measureNamed_63 : decode cX4_measureNamed 63 = .ok (.invokevirtual 99, 3) := by decide +kernel
theorem dX4_measureNamed_66 : decode cX4_measureNamed 66 = .ok (.ifCond .eq 8, 3) := by decide +kernel
theorem dX4_measureNamed_69 : decode cX4_measureNamed 69 = .ok (.bipush 30, 2) := by decide +kernel
theorem dX4_measureNamed_71 : decode cX4_measureNamed 71 = .ok (.goto 4, 3) := by decide +kernel
theorem dX4_measureNamed_74 : decode cX4_measureNamed 74 = .ok (.iconst (-1), 1) := by decide +kernel
theorem dX4_measureNamed_75 : decode cX4_measureNamed 75 = .ok (.ireturn, 1) := by decide +kernel
theorem dX4_isAndOr_0 : decode cX4_isAndOr 0 = .ok (.aload_n 0, 1) := by decide +kernel
theorem dX4_isAndOr_1 : decode cX4_isAndOr 1 = .ok (.getfield 12, 3) := by decide +kernel
theorem dX4_isAndOr_4 : decode cX4_isAndOr 4 = .ok (.ldc 102, 2) := by decide +kernel
theorem dX4_isAndOr_6 : decode cX4_isAndOr 6 = .ok (.invokevirtual 99, 3) := by decide +kernel
theorem dX4_isAndOr_9 : decode cX4_isAndOr 9 = .ok (.ifCond .ne 15, 3) := by decide +kernel
theorem dX4_isAndOr_12 : decode cX4_isAndOr 12 = .ok (.aload_n 0, 1) := by decide +kernel
theorem dX4_isAndOr_13 : decode cX4_isAndOr 13 = .ok (.getfield 12, 3) := by decide +kernel
theorem dX4_isAndOr_16 : decode cX4_isAndOr 16 = .ok (.ldc 97, 2) := by decide +kernel
theorem dX4_isAndOr_18 : decode cX4_isAndOr 18 = .ok (.invokevirtual 99, 3) := by decide +kernel
theorem dX4_isAndOr_21 : decode cX4_isAndOr 21 = .ok (.ifCond .eq 7, 3) := by decide +kernel
theorem dX4_isAndOr_24 : decode cX4_isAndOr 24 = .ok (.iconst 1, 1) := by decide +kernel
theorem dX4_isAndOr_25 : decode cX4_isAndOr 25 = .ok (.goto 4, 3) := by decide +kernel
theorem dX4_isAndOr_28 : decode cX4_isAndOr 28 = .ok (.iconst 0, 1) := by decide +kernel
theorem dX4_isAndOr_29 : decode cX4_isAndOr 29 = .ok (.ireturn, 1) := by decide +kernel
theorem dX4_isKeptWord_0 : decode cX4_isKeptWord 0 = .ok (.aload_n 0, 1) := by decide +kernel
theorem dX4_isKeptWord_1 : decode cX4_isKeptWord 1 = .ok (.getfield 12, 3) := by decide +kernel
theorem dX4_isKeptWord_4 : decode cX4_isKeptWord 4 = .ok (.ldc 97, 2) := by decide +kernel
theorem dX4_isKeptWord_6 : decode cX4_isKeptWord 6 = .ok (.invokevirtual 99, 3) := by decide +kernel
theorem dX4_isKeptWord_9 : decode cX4_isKeptWord 9 = .ok (.ifCond .ne 71, 3) := by decide +kernel
theorem dX4_isKeptWord_12 : decode cX4_isKeptWord 12 = .ok (.aload_n 0, 1) := by decide +kernel
theorem dX4_isKeptWord_13 : decode cX4_isKeptWord 13 = .ok (.getfield 12, 3) := by decide +kernel
theorem dX4_isKeptWord_16 : decode cX4_isKeptWord 16 = .ok (.ldc 102, 2) := by decide +kernel
theorem dX4_isKeptWord_18 : decode cX4_isKeptWord 18 = .ok (.invokevirtual 99, 3) := by decide +kernel
theorem dX4_isKeptWord_21 : decode cX4_isKeptWord 21 = .ok (.ifCond .ne 59, 3) := by decide +kernel
theorem dX4_isKeptWord_24 : decode cX4_isKeptWord 24 = .ok (.aload_n 0, 1) := by decide +kernel
theorem dX4_isKeptWord_25 : decode cX4_isKeptWord 25 = .ok (.getfield 12, 3) := by decide +kernel
theorem dX4_isKeptWord_28 : decode cX4_isKeptWord 28 = .ok (.ldc 104, 2) := by decide +kernel
theorem dX4_isKeptWord_30 : decode cX4_isKeptWord 30 = .ok (.invokevirtual 99, 3) := by decide +kernel
theorem dX4_isKeptWord_33 : decode cX4_isKeptWord 33 = .ok (.ifCond .ne 47, 3) := by decide +kernel
theorem dX4_isKeptWord_36 : decode cX4_isKeptWord 36 = .ok (.aload_n 0, 1) := by decide +kernel
theorem dX4_isKeptWord_37 : decode cX4_isKeptWord 37 = .ok (.getfield 12, 3) := by decide +kernel
theorem dX4_isKeptWord_40 : decode cX4_isKeptWord 40 = .ok (.ldc 106, 2) := by decide +kernel
theorem dX4_isKeptWord_42 : decode cX4_isKeptWord 42 = .ok (.invokevirtual 99, 3) := by decide +kernel
theorem dX4_isKeptWord_45 : decode cX4_isKeptWord 45 = .ok (.ifCond .ne 35, 3) := by decide +kernel
theorem dX4_isKeptWord_48 : decode cX4_isKeptWord 48 = .ok (.aload_n 0, 1) := by decide +kernel
theorem dX4_isKeptWord_49 : decode cX4_isKeptWord 49 = .ok (.getfield 12, 3) := by decide +kernel
theorem dX4_isKeptWord_52 : decode cX4_isKeptWord 52 = .ok (.ldc 108, 2) := by decide +kernel
theorem dX4_isKeptWord_54 : decode cX4_isKeptWord 54 = .ok (.invokevirtual 99, 3) := by decide +kernel
theorem dX4_isKeptWord_57 : decode cX4_isKeptWord 57 = .ok (.ifCond .ne 23, 3) := by decide +kernel
theorem dX4_isKeptWord_60 : decode cX4_isKeptWord 60 = .ok (.aload_n 0, 1) := by decide +kernel
theorem dX4_isKeptWord_61 : decode cX4_isKeptWord 61 = .ok (.getfield 12, 3) := by decide +kernel
theorem dX4_isKeptWord_64 : decode cX4_isKeptWord 64 = .ok (.ldc 47, 2) := by decide +kernel
theorem dX4_isKeptWord_66 : decode cX4_isKeptWord 66 = .ok (.invokevirtual 99, 3) := by decide +kernel
theorem dX4_isKeptWord_69 : decode cX4_isKeptWord 69 = .ok (.ifCond .ne 11, 3) := by decide +kernel
theorem dX4_isKeptWord_72 : decode cX4_isKeptWord 72 = .ok (.aload_n 0, 1) := by decide +kernel
theorem dX4_isKeptWord_73 : decode cX4_isKeptWord 73 = .ok (.invokevirtual 110, 3) := by decide +kernel
theorem dX4_isKeptWord_76 : decode cX4_isKeptWord 76 = .ok (.iconst (-1), 1) := by decide +kernel
theorem dX4_isKeptWord_77 : decode cX4_isKeptWord 77 = .ok (.if_icmp .eq 7, 3) := by decide +kernel
theorem dX4_isKeptWord_80 : decode cX4_isKeptWord 80 = .ok (.iconst 1, 1) := by decide +kernel
theorem dX4_isKeptWord_81 : decode cX4_isKeptWord 81 = .ok (.goto 4, 3) := by decide +kernel
theorem dX4_isKeptWord_84 : decode cX4_isKeptWord 84 = .ok (.iconst 0, 1) := by decide +kernel
theorem dX4_isKeptWord_85 : decode cX4_isKeptWord 85 = .ok (.ireturn, 1) := by decide +kernel
theorem dX4_readByte_0 : decode cX4_readByte 0 = .ok (.aload_n 0, 1) := by decide +kernel
theorem dX4_readByte_1 : decode cX4_readByte 1 = .ok (.getfield 12, 3) := by decide +kernel
theorem dX4_readByte_4 : decode cX4_readByte 4 = .ok (.iload_n 1, 1) := by decide +kernel
theorem dX4_readByte_5 : decode cX4_readByte 5 = .ok (.invokevirtual 114, 3) := by decide +kernel
theorem dX4_readByte_8 : decode cX4_readByte 8 = .ok (.ifCond .ne 8, 3) := by decide +kernel
theorem dX4_readByte_11 : decode cX4_readByte 11 = .ok (.aload_n 0, 1) := by decide +kernel
theorem dX4_readByte_12 : decode cX4_readByte 12 = .ok (.invokevirtual 64, 3) := by decide +kernel
theorem dX4_readByte_15 : decode cX4_readByte 15 = .ok (.ireturn, 1) := by decide +kernel
theorem dX4_readByte_16 : decode cX4_readByte 16 = .ok (.aload_n 0, 1) := by decide +kernel
theorem dX4_readByte_17 : decode cX4_readByte 17 = .ok (.getfield 12, 3) := by decide +kernel
theorem dX4_readByte_20 : decode cX4_readByte 20 = .ok (.invokevirtual 94, 3) := by decide +kernel
theorem dX4_readByte_23 : decode cX4_readByte 23 = .ok (.iconst 1, 1) := by decide +kernel
theorem dX4_readByte_24 : decode cX4_readByte 24 = .ok (.ireturn, 1) := by decide +kernel
theorem dX4_readWord_0 : decode cX4_readWord 0 = .ok (.aload_n 0, 1) := by decide +kernel
theorem dX4_readWord_1 : decode cX4_readWord 1 = .ok (.getfield 12, 3) := by decide +kernel
theorem dX4_readWord_4 : decode cX4_readWord 4 = .ok (.aload_n 1, 1) := by decide +kernel
theorem dX4_readWord_5 : decode cX4_readWord 5 = .ok (.invokevirtual 99, 3) := by decide +kernel
theorem dX4_readWord_8 : decode cX4_readWord 8 = .ok (.ifCond .ne 8, 3) := by decide +kernel
theorem dX4_readWord_11 : decode cX4_readWord 11 = .ok (.aload_n 0, 1) := by decide +kernel
theorem dX4_readWord_12 : decode cX4_readWord 12 = .ok (.invokevirtual 64, 3) := by decide +kernel
theorem dX4_readWord_15 : decode cX4_readWord 15 = .ok (.ireturn, 1) := by decide +kernel
theorem dX4_readWord_16 : decode cX4_readWord 16 = .ok (.aload_n 0, 1) := by decide +kernel
theorem dX4_readWord_17 : decode cX4_readWord 17 = .ok (.getfield 12, 3) := by decide +kernel
theorem dX4_readWord_20 : decode cX4_readWord 20 = .ok (.invokevirtual 94, 3) := by decide +kernel
theorem dX4_readWord_23 : decode cX4_readWord 23 = .ok (.iconst 1, 1) := by decide +kernel
theorem dX4_readWord_24 : decode cX4_readWord 24 = .ok (.ireturn, 1) := by decide +kernel
theorem dX4_readNumber_0 : decode cX4_readNumber 0 = .ok (.aload_n 0, 1) := by decide +kernel
theorem dX4_readNumber_1 : decode cX4_readNumber 1 = .ok (.getfield 12, 3) := by decide +kernel
theorem dX4_readNumber_4 : decode cX4_readNumber 4 = .ok (.getfield 61, 3) := by decide +kernel
theorem dX4_readNumber_7 : decode cX4_readNumber 7 = .ok (.iconst 2, 1) := by decide +kernel
theorem dX4_readNumber_8 : decode cX4_readNumber 8 = .ok (.if_icmp .eq 8, 3) := by decide +kernel
theorem dX4_readNumber_11 : decode cX4_readNumber 11 = .ok (.aload_n 0, 1) := by decide +kernel
theorem dX4_readNumber_12 : decode cX4_readNumber 12 = .ok (.invokevirtual 64, 3) := by decide +kernel
theorem dX4_readNumber_15 : decode cX4_readNumber 15 = .ok (.ireturn, 1) := by decide +kernel
theorem dX4_readNumber_16 : decode cX4_readNumber 16 = .ok (.aload_n 0, 1) := by decide +kernel
theorem dX4_readNumber_17 : decode cX4_readNumber 17 = .ok (.getfield 12, 3) := by decide +kernel
theorem dX4_readNumber_20 : decode cX4_readNumber 20 = .ok (.getfield 83, 3) := by decide +kernel
theorem dX4_readNumber_23 : decode cX4_readNumber 23 = .ok (.aload_n 0, 1) := by decide +kernel
theorem dX4_readNumber_24 : decode cX4_readNumber 24 = .ok (.getfield 12, 3) := by decide +kernel
theorem dX4_readNumber_27 : decode cX4_readNumber 27 = .ok (.getfield 73, 3) := by decide +kernel
theorem dX4_readNumber_30 : decode cX4_readNumber 30 = .ok (.isub, 1) := by decide +kernel
theorem dX4_readNumber_31 : decode cX4_readNumber 31 = .ok (.iconst 5, 1) := by decide +kernel
theorem dX4_readNumber_32 : decode cX4_readNumber 32 = .ok (.if_icmp .le 18, 3) := by decide +kernel
theorem dX4_readNumber_35 : decode cX4_readNumber 35 = .ok (.aload_n 0, 1) := by decide +kernel
theorem dX4_readNumber_36 : decode cX4_readNumber 36 = .ok (.iconst 1, 1) := by decide +kernel
theorem dX4_readNumber_37 : decode cX4_readNumber 37 = .ok (.aload_n 0, 1) := by decide +kernel
theorem dX4_readNumber_38 : decode cX4_readNumber 38 = .ok (.getfield 12, 3) := by decide +kernel
theorem dX4_readNumber_41 : decode cX4_readNumber 41 = .ok (.getfield 73, 3) := by decide +kernel
theorem dX4_readNumber_44 : decode cX4_readNumber 44 = .ok (.iconst 5, 1) := by decide +kernel
theorem dX4_readNumber_45 : decode cX4_readNumber 45 = .ok (.iadd, 1) := by decide +kernel
theorem dX4_readNumber_46 : decode cX4_readNumber 46 = .ok (.invokevirtual 76, 3) := by decide +kernel
theorem dX4_readNumber_49 : decode cX4_readNumber 49 = .ok (.ireturn, 1) := by decide +kernel
theorem dX4_readNumber_50 : decode cX4_readNumber 50 = .ok (.aload_n 0, 1) := by decide +kernel
theorem dX4_readNumber_51 : decode cX4_readNumber 51 = .ok (.aload_n 0, 1) := by decide +kernel
theorem dX4_readNumber_52 : decode cX4_readNumber 52 = .ok (.getfield 12, 3) := by decide +kernel
theorem dX4_readNumber_55 : decode cX4_readNumber 55 = .ok (.invokevirtual 117, 3) := by decide +kernel
theorem dX4_readNumber_58 : decode cX4_readNumber 58 = .ok (.putfield 56, 3) := by decide +kernel
theorem dX4_readNumber_61 : decode cX4_readNumber 61 = .ok (.aload_n 0, 1) := by decide +kernel
theorem dX4_readNumber_62 : decode cX4_readNumber 62 = .ok (.getfield 56, 3) := by decide +kernel
theorem dX4_readNumber_65 : decode cX4_readNumber 65 = .ok (.iload_n 1, 1) := by decide +kernel
theorem dX4_readNumber_66 : decode cX4_readNumber 66 = .ok (.if_icmp .le 16, 3) := by decide +kernel
theorem dX4_readNumber_69 : decode cX4_readNumber 69 = .ok (.aload_n 0, 1) := by decide +kernel
theorem dX4_readNumber_70 : decode cX4_readNumber 70 = .ok (.iconst 2, 1) := by decide +kernel
theorem dX4_readNumber_71 : decode cX4_readNumber 71 = .ok (.aload_n 0, 1) := by decide +kernel
theorem dX4_readNumber_72 : decode cX4_readNumber 72 = .ok (.getfield 12, 3) := by decide +kernel
theorem dX4_readNumber_75 : decode cX4_readNumber 75 = .ok (.getfield 73, 3) := by decide +kernel
theorem dX4_readNumber_78 : decode cX4_readNumber 78 = .ok (.invokevirtual 76, 3) := by decide +kernel
theorem dX4_readNumber_81 : decode cX4_readNumber 81 = .ok (.ireturn, 1) := by decide +kernel
theorem dX4_readNumber_82 : decode cX4_readNumber 82 = .ok (.aload_n 0, 1) := by decide +kernel
theorem dX4_readNumber_83 : decode cX4_readNumber 83 = .ok (.getfield 12, 3) := by decide +kernel
theorem dX4_readNumber_86 : decode cX4_readNumber 86 = .ok (.invokevirtual 94, 3) := by decide +kernel
theorem dX4_readNumber_89 : decode cX4_readNumber 89 = .ok (.iconst 1, 1) := by decide +kernel
theorem dX4_readNumber_90 : decode cX4_readNumber 90 = .ok (.ireturn, 1) := by decide +kernel
theorem dX4_readName_0 : decode cX4_readName 0 = .ok (.aload_n 0, 1) := by decide +kernel
theorem dX4_readName_1 : decode cX4_readName 1 = .ok (.getfield 12, 3) := by decide +kernel
theorem dX4_readName_4 : decode cX4_readName 4 = .ok (.getfield 61, 3) := by decide +kernel
theorem dX4_readName_7 : decode cX4_readName 7 = .ok (.iconst 1, 1) := by decide +kernel
theorem dX4_readName_8 : decode cX4_readName 8 = .ok (.if_icmp .ne 10, 3) := by decide +kernel
theorem dX4_readName_11 : decode cX4_readName 11 = .ok (.aload_n 0, 1) := by decide +kernel
theorem dX4_readName_12 : decode cX4_readName 12 = .ok (.invokevirtual 80, 3) := by decide +kernel
theorem dX4_readName_15 : decode cX4_readName 15 = .ok (.ifCond .eq 8, 3) := by decide +kernel
theorem dX4_readName_18 : decode cX4_readName 18 = .ok (.aload_n 0, 1) := by decide +kernel
theorem dX4_readName_19 : decode cX4_readName 19 = .ok (.invokevirtual 64, 3) := by decide +kernel
theorem dX4_readName_22 : decode cX4_readName 22 = .ok (.ireturn, 1) := by decide +kernel
theorem dX4_readName_23 : decode cX4_readName 23 = .ok (.aload_n 0, 1) := by decide +kernel
theorem dX4_readName_24 : decode cX4_readName 24 = .ok (.getfield 12, 3) := by decide +kernel
theorem dX4_readName_27 : decode cX4_readName 27 = .ok (.getfield 83, 3) := by decide +kernel
theorem dX4_readName_30 : decode cX4_readName 30 = .ok (.aload_n 0, 1) := by decide +kernel
theorem dX4_readName_31 : decode cX4_readName 31 = .ok (.getfield 12, 3) := by decide +kernel
theorem dX4_readName_34 : decode cX4_readName 34 = .ok (.getfield 73, 3) := by decide +kernel
theorem dX4_readName_37 : decode cX4_readName 37 = .ok (.isub, 1) := by decide +kernel
theorem dX4_readName_38 : decode cX4_readName 38 = .ok (.bipush 12, 2) := by decide +kernel
theorem dX4_readName_40 : decode cX4_readName 40 = .ok (.if_icmp .le 19, 3) := by decide +kernel
theorem dX4_readName_43 : decode cX4_readName 43 = .ok (.aload_n 0, 1) := by decide +kernel
theorem dX4_readName_44 : decode cX4_readName 44 = .ok (.iconst 1, 1) := by decide +kernel
theorem dX4_readName_45 : decode cX4_readName 45 = .ok (.aload_n 0, 1) := by decide +kernel
theorem dX4_readName_46 : decode cX4_readName 46 = .ok (.getfield 12, 3) := by decide +kernel
theorem dX4_readName_49 : decode cX4_readName 49 = .ok (.getfield 73, 3) := by decide +kernel
theorem dX4_readName_52 : decode cX4_readName 52 = .ok (.bipush 12, 2) := by decide +kernel
theorem dX4_readName_54 : decode cX4_readName 54 = .ok (.iadd, 1) := by decide +kernel
theorem dX4_readName_55 : decode cX4_readName 55 = .ok (.invokevirtual 76, 3) := by decide +kernel
theorem dX4_readName_58 : decode cX4_readName 58 = .ok (.ireturn, 1) := by decide +kernel
theorem dX4_readName_59 : decode cX4_readName 59 = .ok (.aload_n 0, 1) := by decide +kernel
theorem dX4_readName_60 : decode cX4_readName 60 = .ok (.aload_n 0, 1) := by decide +kernel
theorem dX4_readName_61 : decode cX4_readName 61 = .ok (.getfield 12, 3) := by decide +kernel
theorem dX4_readName_64 : decode cX4_readName 64 = .ok (.invokevirtual 86, 3) := by decide +kernel
theorem dX4_readName_67 : decode cX4_readName 67 = .ok (.putfield 90, 3) := by decide +kernel
theorem dX4_readName_70 : decode cX4_readName 70 = .ok (.aload_n 0, 1) := by decide +kernel
theorem dX4_readName_71 : decode cX4_readName 71 = .ok (.getfield 12, 3) := by decide +kernel
theorem dX4_readName_74 : decode cX4_readName 74 = .ok (.invokevirtual 94, 3) := by decide +kernel
theorem dX4_readName_77 : decode cX4_readName 77 = .ok (.iconst 1, 1) := by decide +kernel
theorem dX4_readName_78 : decode cX4_readName 78 = .ok (.ireturn, 1) := by decide +kernel
theorem dX4_addCode_0 : decode cX4_addCode 0 = .ok (.aload_n 0, 1) := by decide +kernel
theorem dX4_addCode_1 : decode cX4_addCode 1 = .ok (.getfield 29, 3) := by decide +kernel
theorem dX4_addCode_4 : decode cX4_addCode 4 = .ok (.ifCond .lt 35, 3) := by decide +kernel
theorem dX4_addCode_7 : decode cX4_addCode 7 = .ok (.aload_n 0, 1) := by decide +kernel
theorem dX4_addCode_8 : decode cX4_addCode 8 = .ok (.getfield 29, 3) := by decide +kernel
theorem dX4_addCode_11 : decode cX4_addCode 11 = .ok (.aload_n 0, 1) := by decide +kernel
theorem dX4_addCode_12 : decode cX4_addCode 12 = .ok (.getfield 22, 3) := by decide +kernel
theorem dX4_addCode_15 : decode cX4_addCode 15 = .ok (.arraylength, 1) := by decide +kernel
theorem dX4_addCode_16 : decode cX4_addCode 16 = .ok (.if_icmp .ge 23, 3) := by decide +kernel
theorem dX4_addCode_19 : decode cX4_addCode 19 = .ok (.aload_n 0, 1) := by decide +kernel
theorem dX4_addCode_20 : decode cX4_addCode 20 = .ok (.getfield 22, 3) := by decide +kernel
theorem dX4_addCode_23 : decode cX4_addCode 23 = .ok (.aload_n 0, 1) := by decide +kernel
theorem dX4_addCode_24 : decode cX4_addCode 24 = .ok (.getfield 29, 3) := by decide +kernel
theorem dX4_addCode_27 : decode cX4_addCode 27 = .ok (.iload_n 1, 1) := by decide +kernel
theorem dX4_addCode_28 : decode cX4_addCode 28 = .ok (.iastore, 1) := by decide +kernel
theorem dX4_addCode_29 : decode cX4_addCode 29 = .ok (.aload_n 0, 1) := by decide +kernel
theorem dX4_addCode_30 : decode cX4_addCode 30 = .ok (.dup, 1) := by decide +kernel
theorem dX4_addCode_31 : decode cX4_addCode 31 = .ok (.getfield 29, 3) := by decide +kernel
theorem dX4_addCode_34 : decode cX4_addCode 34 = .ok (.iconst 1, 1) := by decide +kernel
theorem dX4_addCode_35 : decode cX4_addCode 35 = .ok (.iadd, 1) := by decide +kernel
theorem dX4_addCode_36 : decode cX4_addCode 36 = .ok (.putfield 29, 3) := by decide +kernel
theorem dX4_addCode_39 : decode cX4_addCode 39 = .ok (.return_, 1) := by decide +kernel
theorem dX4_testCode_0 : decode cX4_testCode 0 = .ok (.iload_n 0, 1) := by decide +kernel
theorem dX4_testCode_1 : decode cX4_testCode 1 = .ok (.iconst 2, 1) := by decide +kernel
theorem dX4_testCode_2 : decode cX4_testCode 2 = .ok (.imul, 1) := by decide +kernel
theorem dX4_testCode_3 : decode cX4_testCode 3 = .ok (.iload_n 1, 1) := by decide +kernel
theorem dX4_testCode_4 : decode cX4_testCode 4 = .ok (.ifCond .eq 7, 3) := by decide +kernel
theorem dX4_testCode_7 : decode cX4_testCode 7 = .ok (.iconst 1, 1) := by decide +kernel
theorem dX4_testCode_8 : decode cX4_testCode 8 = .ok (.goto 4, 3) := by decide +kernel
theorem dX4_testCode_11 : decode cX4_testCode 11 = .ok (.iconst 0, 1) := by decide +kernel
theorem dX4_testCode_12 : decode cX4_testCode 12 = .ok (.iadd, 1) := by decide +kernel
theorem dX4_testCode_13 : decode cX4_testCode 13 = .ok (.bipush 10, 2) := by decide +kernel
theorem dX4_testCode_15 : decode cX4_testCode 15 = .ok (.ishl, 1) := by decide +kernel
theorem dX4_testCode_16 : decode cX4_testCode 16 = .ok (.iload_n 2, 1) := by decide +kernel
theorem dX4_testCode_17 : decode cX4_testCode 17 = .ok (.iadd, 1) := by decide +kernel
theorem dX4_testCode_18 : decode cX4_testCode 18 = .ok (.ireturn, 1) := by decide +kernel
theorem dX4_readTest_0 : decode cX4_readTest 0 = .ok (.aload_n 0, 1) := by decide +kernel
theorem dX4_readTest_1 : decode cX4_readTest 1 = .ok (.invokevirtual 110, 3) := by decide +kernel
theorem dX4_readTest_4 : decode cX4_readTest 4 = .ok (.istore_n 1, 1) := by decide +kernel
theorem dX4_readTest_5 : decode cX4_readTest 5 = .ok (.iload_n 1, 1) := by decide +kernel
theorem dX4_readTest_6 : decode cX4_readTest 6 = .ok (.iconst (-1), 1) := by decide +kernel
theorem dX4_readTest_7 : decode cX4_readTest 7 = .ok (.if_icmp .ne 8, 3) := by decide +kernel
theorem dX4_readTest_10 : decode cX4_readTest 10 = .ok (.aload_n 0, 1) := by decide +kernel
theorem dX4_readTest_11 : decode cX4_readTest 11 = .ok (.invokevirtual 64, 3) := by decide +kernel
theorem dX4_readTest_14 : decode cX4_readTest 14 = .ok (.ireturn, 1) := by decide +kernel
theorem dX4_readTest_15 : decode cX4_readTest 15 = .ok (.aload_n 0, 1) := by decide +kernel
theorem dX4_readTest_16 : decode cX4_readTest 16 = .ok (.getfield 12, 3) := by decide +kernel
theorem dX4_readTest_19 : decode cX4_readTest 19 = .ok (.invokevirtual 94, 3) := by decide +kernel
theorem dX4_readTest_22 : decode cX4_readTest 22 = .ok (.iload_n 1, 1) := by decide +kernel
theorem dX4_readTest_23 : decode cX4_readTest 23 = .ok (.bipush 10, 2) := by decide +kernel
theorem dX4_readTest_25 : decode cX4_readTest 25 = .ok (.if_icmp .eq 9, 3) := by decide +kernel
theorem dX4_readTest_28 : decode cX4_readTest 28 = .ok (.iload_n 1, 1) := by decide +kernel
theorem dX4_readTest_29 : decode cX4_readTest 29 = .ok (.bipush 30, 2) := by decide +kernel
theorem dX4_readTest_31 : decode cX4_readTest 31 = .ok (.if_icmp .ne 30, 3) := by decide +kernel
theorem dX4_readTest_34 : decode cX4_readTest 34 = .ok (.aload_n 0, 1) := by decide +kernel
theorem dX4_readTest_35 : decode cX4_readTest 35 = .ok (.iload_n 1, 1) := by decide +kernel
theorem dX4_readTest_36 : decode cX4_readTest 36 = .ok (.bipush 30, 2) := by decide +kernel
theorem dX4_readTest_38 : decode cX4_readTest 38 = .ok (.if_icmp .ne 7, 3) := by decide +kernel
theorem dX4_readTest_41 : decode cX4_readTest 41 = .ok (.iconst 3, 1) := by decide +kernel
theorem dX4_readTest_42 : decode cX4_readTest 42 = .ok (.goto 4, 3) := by decide +kernel
theorem dX4_readTest_45 : decode cX4_readTest 45 = .ok (.iconst 4, 1) := by decide +kernel
theorem dX4_readTest_46 : decode cX4_readTest 46 = .ok (.invokevirtual 53, 3) := by decide +kernel
theorem dX4_readTest_49 : decode cX4_readTest 49 = .ok (.ifCond .ne 5, 3) := by decide +kernel
theorem dX4_readTest_52 : decode cX4_readTest 52 = .ok (.iconst 0, 1) := by decide +kernel
theorem dX4_readTest_53 : decode cX4_readTest 53 = .ok (.ireturn, 1) := by decide +kernel
theorem dX4_readTest_54 : decode cX4_readTest 54 = .ok (.iload_n 1, 1) := by decide +kernel
theorem dX4_readTest_55 : decode cX4_readTest 55 = .ok (.aload_n 0, 1) := by decide +kernel
theorem dX4_readTest_56 : decode cX4_readTest 56 = .ok (.getfield 56, 3) := by decide +kernel
theorem dX4_readTest_59 : decode cX4_readTest 59 = .ok (.iadd, 1) := by decide +kernel
theorem dX4_readTest_60 : decode cX4_readTest 60 = .ok (.istore_n 1, 1) := by decide +kernel
theorem dX4_readTest_61 : decode cX4_readTest 61 = .ok (.aload_n 0, 1) := by decide +kernel
theorem dX4_readTest_62 : decode cX4_readTest 62 = .ok (.getfield 12, 3) := by decide +kernel
theorem dX4_readTest_65 : decode cX4_readTest 65 = .ok (.ldc 108, 2) := by decide +kernel
theorem dX4_readTest_67 : decode cX4_readTest 67 = .ok (.invokevirtual 99, 3) := by decide +kernel
theorem dX4_readTest_70 : decode cX4_readTest 70 = .ok (.istore_n 2, 1) := by decide +kernel
theorem dX4_readTest_71 : decode cX4_readTest 71 = .ok (.iload_n 2, 1) := by decide +kernel
theorem dX4_readTest_72 : decode cX4_readTest 72 = .ok (.ifCond .ne 20, 3) := by decide +kernel
theorem dX4_readTest_75 : decode cX4_readTest 75 = .ok (.aload_n 0, 1) := by decide +kernel
theorem dX4_readTest_76 : decode cX4_readTest 76 = .ok (.getfield 12, 3) := by decide +kernel
theorem dX4_readTest_79 : decode cX4_readTest 79 = .ok (.ldc 106, 2) := by decide +kernel
theorem dX4_readTest_81 : decode cX4_readTest 81 = .ok (.invokevirtual 99, 3) := by decide +kernel
theorem dX4_readTest_84 : decode cX4_readTest 84 = .ok (.ifCond .ne 8, 3) := by decide +kernel
theorem dX4_readTest_87 : decode cX4_readTest 87 = .ok (.aload_n 0, 1) := by decide +kernel
theorem dX4_readTest_88 : decode cX4_readTest 88 = .ok (.invokevirtual 64, 3) := by decide +kernel
theorem dX4_readTest_91 : decode cX4_readTest 91 = .ok (.ireturn, 1) := by decide +kernel
theorem dX4_readTest_92 : decode cX4_readTest 92 = .ok (.aload_n 0, 1) := by decide +kernel
theorem dX4_readTest_93 : decode cX4_readTest 93 = .ok (.getfield 12, 3) := by decide +kernel
theorem dX4_readTest_96 : decode cX4_readTest 96 = .ok (.invokevirtual 94, 3) := by decide +kernel
theorem dX4_readTest_99 : decode cX4_readTest 99 = .ok (.aload_n 0, 1) := by decide +kernel
theorem dX4_readTest_100 : decode cX4_readTest 100 = .ok (.sipush 1000, 3) := by decide +kernel
theorem dX4_readTest_103 : decode cX4_readTest 103 = .ok (.invokevirtual 53, 3) := by decide +kernel
theorem dX4_readTest_106 : decode cX4_readTest 106 = .ok (.ifCond .ne 5, 3) := by decide +kernel
theorem dX4_readTest_109 : decode cX4_readTest 109 = .ok (.iconst 0, 1) := by decide +kernel
theorem dX4_readTest_110 : decode cX4_readTest 110 = .ok (.ireturn, 1) := by decide +kernel
theorem dX4_readTest_111 : decode cX4_readTest 111 = .ok (.aload_n 0, 1) := by decide +kernel
theorem dX4_readTest_112 : decode cX4_readTest 112 = .ok (.iload_n 1, 1) := by decide +kernel
theorem dX4_readTest_113 : decode cX4_readTest 113 = .ok (.iload_n 2, 1) := by decide +kernel
theorem dX4_readTest_114 : decode cX4_readTest 114 = .ok (.aload_n 0, 1) := by decide +kernel
theorem dX4_readTest_115 : decode cX4_readTest 115 = .ok (.getfield 56, 3) := by decide +kernel
theorem dX4_readTest_118 : decode cX4_readTest 118 = .ok (.invokestatic 133, 3) := by decide +kernel
theorem dX4_readTest_121 : decode cX4_readTest 121 = .ok (.invokevirtual 126, 3) := by decide +kernel
theorem dX4_readTest_124 : decode cX4_readTest 124 = .ok (.iconst 1, 1) := by decide +kernel
theorem dX4_readTest_125 : decode cX4_readTest 125 = .ok (.ireturn, 1) := by decide +kernel
set_option maxRecDepth 20000 in
theorem ggX4_failHere_X4_failAt : GoodIn wsX4_failHere wsX4_failAt := goodIn_r _ [7, 8, 9, 10, 11, 12, 13, 14, 15, 16, 17] rfl (by decide +kernel)
set_option maxRecDepth 20000 in
theorem gX4_failHere_X4_failAt : GoodIn wsX4_failHere (wsV RX4 76 RX4 yX4_failAt wsX4_failAt) := goodIn_app (goodIn_of _ (by decide +kernel)) ggX4_failHere_X4_failAt
set_option maxRecDepth 20000 in
theorem ggX4_measureNamed_X6_isWord : GoodIn wsX4_measureNamed wsX6_isWord := goodIn_r _ [6, 7, 8, 9, 10, 11, 12, 13, 14, 15, 16, 17, 18, 19, 20, 21, 22, 23, 24, 5, 25, 26, 27, 28, 29, 30, 31, 32, 33, 34, 35, 36, 37, 38, 39, 40, 41, 42, 43, 44, 45, 46, 47, 48, 49, 50, 51, 52, 53, 54, 55, 56, 57, 58, 59, 60, 61, 62, 63, 64, 73, 74, 75, 76, 77] rfl (by decide +kernel)
set_option maxRecDepth 20000 in
theorem gX4_measureNamed_X6_isWord : GoodIn wsX4_measureNamed (wsV RX4 99 RX6 yX6_isWord wsX6_isWord) := goodIn_app (goodIn_of _ (by decide +kernel)) ggX4_measureNamed_X6_isWord
set_option maxRecDepth 20000 in
theorem ggX4_isAndOr_X6_isWord : GoodIn wsX4_isAndOr wsX6_isWord := goodIn_r _ [6, 7, 8, 9, 10, 11, 12, 13, 14, 15, 16, 17, 18, 19, 20, 21, 22, 23, 24, 5, 25, 26, 27, 28, 29, 30, 31, 32, 33, 34, 35, 36, 37, 38, 39, 40, 41, 42, 43, 44, 45, 46, 47, 48, 49, 50, 51, 52, 53, 54, 55, 56, 57, 58, 59, 60, 61, 62, 63, 64, 73, 74, 75, 76, 77] rfl (by decide +kernel)
set_option maxRecDepth 20000 in
theorem gX4_isAndOr_X6_isWord : GoodIn wsX4_isAndOr (wsV RX4 99 RX6 yX6_isWord wsX6_isWord) := goodIn_app (goodIn_of _ (by decide +kernel)) ggX4_isAndOr_X6_isWord
set_option maxRecDepth 20000 in
theorem ggX4_isKeptWord_X6_isWord : GoodIn wsX4_isKeptWord wsX6_isWord := goodIn_r _ [6, 7, 8, 9, 10, 11, 12, 13, 14, 15, 16, 17, 18, 19, 20, 21, 22, 23, 24, 5, 25, 26, 27, 28, 29, 30, 31, 32, 33, 34, 35, 36, 37, 38, 39, 40, 41, 42, 43, 44, 45, 46, 47, 48, 49, 50, 51, 52, 53, 54, 55, 56, 57, 58, 59, 60, 61, 62, 63, 64, 78, 79, 80, 81, 82] rfl (by decide +kernel)
set_option maxRecDepth 20000 in
theorem gX4_isKeptWord_X6_isWord : GoodIn wsX4_isKeptWord (wsV RX4 99 RX6 yX6_isWord wsX6_isWord) := goodIn_app (goodIn_of _ (by decide +kernel)) ggX4_isKeptWord_X6_isWord
set_option maxRecDepth 20000 in
theorem ggX4_isKeptWord_X4_measureNamed : GoodIn wsX4_isKeptWord wsX4_measureNamed := goodIn_r _ [69, 1, 2, 3, 4, 5, 6, 7, 8, 9, 10, 11, 12, 13, 14, 15, 16, 17, 18, 19, 20, 21, 22, 23, 24, 25, 26, 27, 28, 29, 30, 31, 32, 33, 34, 35, 36, 37, 38, 39, 40, 41, 42, 43, 44, 45, 46, 47, 48, 49, 50, 51, 52, 53, 54, 55, 56, 57, 58, 59, 60, 61, 62, 63, 64, 70, 71, 72, 73, 74, 75, 76, 77, 78, 79, 80, 81, 82] rfl (by decide +kernel)
set_option maxRecDepth 20000 in
theorem gX4_isKeptWord_X4_measureNamed : GoodIn wsX4_isKeptWord (wsV RX4 110 RX4 yX4_measureNamed wsX4_measureNamed) := goodIn_app (goodIn_of _ (by decide +kernel)) ggX4_isKeptWord_X4_measureNamed
set_option maxRecDepth 20000 in
theorem ggX4_readByte_X6_isByte : GoodIn wsX4_readByte wsX6_isByte := goodIn_r _ [6, 7, 8, 9, 10, 11, 5, 12, 13, 14, 43, 44, 45, 46, 47] rfl (by decide +kernel)
set_option maxRecDepth 20000 in
theorem gX4_readByte_X6_isByte : GoodIn wsX4_readByte (wsV RX4 114 RX6 yX6_isByte wsX6_isByte) := goodIn_app (goodIn_of _ (by decide +kernel)) ggX4_readByte_X6_isByte
set_option maxRecDepth 20000 in
theorem ggX4_readByte_X4_failHere : GoodIn wsX4_readByte wsX4_failHere := goodIn_r _ [19, 1, 20, 21, 22, 23, 18, 24, 25, 26, 35, 36, 37, 38, 39, 40, 41, 42, 43, 44, 45, 46, 47] rfl (by decide +kernel)
set_option maxRecDepth 20000 in
theorem gX4_readByte_X4_failHere : GoodIn wsX4_readByte (wsV RX4 64 RX4 yX4_failHere wsX4_failHere) := goodIn_app (goodIn_of _ (by decide +kernel)) ggX4_readByte_X4_failHere
set_option maxRecDepth 20000 in
theorem ggX4_readByte_X6_advance : GoodIn wsX4_readByte wsX6_advance := goodIn_r _ [30, 31, 13, 8, 7, 9, 10, 11, 5, 12, 14, 32, 33, 34, 43, 44, 45, 46, 47] rfl (by decide +kernel)
set_option maxRecDepth 20000 in
theorem gX4_readByte_X6_advance : GoodIn wsX4_readByte (wsV RX4 94 RX6 yX6_advance wsX6_advance) := goodIn_app (goodIn_of _ (by decide +kernel)) ggX4_readByte_X6_advance
set_option maxRecDepth 20000 in
theorem ggX4_readWord_X6_isWord : GoodIn wsX4_readWord wsX6_isWord := goodIn_r _ [6, 7, 8, 9, 10, 11, 12, 13, 14, 15, 16, 17, 18, 19, 20, 21, 22, 23, 24, 5, 25, 26, 27, 28, 29, 30, 31, 32, 33, 34, 35, 36, 37, 38, 39, 40, 41, 42, 43, 44, 45, 46, 47, 48, 49, 50, 51, 52, 53, 54, 55, 56, 57, 58, 59, 60, 61, 62, 63, 64, 92, 93, 94, 95, 96] rfl (by decide +kernel)
set_option maxRecDepth 20000 in
theorem gX4_readWord_X6_isWord : GoodIn wsX4_readWord (wsV RX4 99 RX6 yX6_isWord wsX6_isWord) := goodIn_app (goodIn_of _ (by decide +kernel)) ggX4_readWord_X6_isWord
set_option maxRecDepth 20000 in
theorem ggX4_readWord_X4_failHere : GoodIn wsX4_readWord wsX4_failHere := goodIn_r _ [69, 1, 70, 71, 72, 73, 68, 74, 75, 76, 84, 85, 86, 87, 88, 89, 90, 91, 92, 93, 94, 95, 96] rfl (by decide +kernel)
set_option maxRecDepth 20000 in
theorem gX4_readWord_X4_failHere : GoodIn wsX4_readWord (wsV RX4 64 RX4 yX4_failHere wsX4_failHere) := goodIn_app (goodIn_of _ (by decide +kernel)) ggX4_readWord_X4_failHere
set_option maxRecDepth 20000 in
theorem ggX4_readWord_X6_advance : GoodIn wsX4_readWord wsX6_advance := goodIn_r _ [80, 8, 26, 9, 7, 22, 23, 24, 5, 25, 27, 81, 82, 83, 92, 93, 94, 95, 96] rfl (by decide +kernel)
set_option maxRecDepth 20000 in
theorem gX4_readWord_X6_advance : GoodIn wsX4_readWord (wsV RX4 94 RX6 yX6_advance wsX6_advance) := goodIn_app (goodIn_of _ (by decide +kernel)) ggX4_readWord_X6_advance
set_option maxRecDepth 20000 in
theorem ggX4_readNumber_X6_numberValue : GoodIn wsX4_readNumber wsX6_numberValue := goodIn_r _ [21, 22, 23, 24, 25, 26, 20, 27, 28, 29, 46, 47, 48, 49, 50] rfl (by decide +kernel)
set_option maxRecDepth 20000 in
theorem gX4_readNumber_X6_numberValue : GoodIn wsX4_readNumber (wsV RX4 117 RX6 yX6_numberValue wsX6_numberValue) := goodIn_app (goodIn_of _ (by decide +kernel)) ggX4_readNumber_X6_numberValue
set_option maxRecDepth 20000 in
theorem ggX4_readNumber_X6_advance : GoodIn wsX4_readNumber wsX6_advance := goodIn_r _ [33, 23, 28, 22, 34, 24, 25, 26, 20, 27, 29, 35, 36, 37, 46, 47, 48, 49, 50] rfl (by decide +kernel)
set_option maxRecDepth 20000 in
theorem gX4_readNumber_X6_advance : GoodIn wsX4_readNumber (wsV RX4 94 RX6 yX6_advance wsX6_advance) := goodIn_app (goodIn_of _ (by decide +kernel)) ggX4_readNumber_X6_advance
set_option maxRecDepth 20000 in
theorem ggX4_readNumber_X4_failAt : GoodIn wsX4_readNumber wsX4_failAt := goodIn_r _ [14, 15, 16, 38, 39, 40, 41, 42, 43, 44, 45] rfl (by decide +kernel)
set_option maxRecDepth 20000 in
theorem gX4_readNumber_X4_failAt : GoodIn wsX4_readNumber (wsV RX4 76 RX4 yX4_failAt wsX4_failAt) := goodIn_app (goodIn_of _ (by decide +kernel)) ggX4_readNumber_X4_failAt
set_option maxRecDepth 20000 in
theorem ggX4_readNumber_X4_failHere : GoodIn wsX4_readNumber wsX4_failHere := goodIn_r _ [10, 1, 4, 11, 12, 13, 9, 14, 15, 16, 38, 39, 40, 41, 42, 43, 44, 45, 46, 47, 48, 49, 50] rfl (by decide +kernel)
set_option maxRecDepth 20000 in
theorem gX4_readNumber_X4_failHere : GoodIn wsX4_readNumber (wsV RX4 64 RX4 yX4_failHere wsX4_failHere) := goodIn_app (goodIn_of _ (by decide +kernel)) ggX4_readNumber_X4_failHere
set_option maxRecDepth 20000 in
theorem ggX4_readName_X4_failHere : GoodIn wsX4_readName wsX4_failHere := goodIn_r _ [81, 1, 4, 82, 83, 84, 9, 85, 86, 87, 100, 101, 102, 103, 104, 105, 106, 107, 108, 109, 110, 111, 112] rfl (by decide +kernel)
set_option maxRecDepth 20000 in
theorem gX4_readName_X4_failHere : GoodIn wsX4_readName (wsV RX4 64 RX4 yX4_failHere wsX4_failHere) := goodIn_app (goodIn_of _ (by decide +kernel)) ggX4_readName_X4_failHere
set_option maxRecDepth 20000 in
theorem ggX4_readName_X4_isKeptWord : GoodIn wsX4_readName wsX4_isKeptWord := goodIn_r _ [10, 1, 11, 12, 13, 14, 15, 16, 17, 18, 19, 20, 21, 22, 23, 24, 25, 26, 27, 28, 29, 30, 31, 32, 33, 34, 35, 36, 37, 38, 39, 40, 41, 42, 43, 44, 45, 46, 47, 48, 49, 50, 51, 52, 53, 54, 55, 56, 57, 58, 59, 60, 61, 62, 63, 64, 65, 66, 67, 68, 69, 70, 71, 72, 73, 74, 75, 76, 9, 77, 100, 101, 102, 103, 104, 105, 106, 107, 108, 109, 110, 111, 112] rfl (by decide +kernel)
set_option maxRecDepth 20000 in
theorem gX4_readName_X4_isKeptWord : GoodIn wsX4_readName (wsV RX4 80 RX4 yX4_isKeptWord wsX4_isKeptWord) := goodIn_app (goodIn_of _ (by decide +kernel)) ggX4_readName_X4_isKeptWord
set_option maxRecDepth 20000 in
theorem ggX4_readName_X6_wordKey : GoodIn wsX4_readName wsX6_wordKey := goodIn_r _ [91, 18, 17, 92, 31, 32, 33, 14, 34, 35, 36, 108, 109, 110, 111, 112] rfl (by decide +kernel)
set_option maxRecDepth 20000 in
theorem gX4_readName_X6_wordKey : GoodIn wsX4_readName (wsV RX4 86 RX6 yX6_wordKey wsX6_wordKey) := goodIn_app (goodIn_of _ (by decide +kernel)) ggX4_readName_X6_wordKey
set_option maxRecDepth 20000 in
theorem ggX4_readName_X6_advance : GoodIn wsX4_readName wsX6_advance := goodIn_r _ [96, 17, 35, 18, 16, 31, 32, 33, 14, 34, 36, 97, 98, 99, 108, 109, 110, 111, 112] rfl (by decide +kernel)
set_option maxRecDepth 20000 in
theorem gX4_readName_X6_advance : GoodIn wsX4_readName (wsV RX4 94 RX6 yX6_advance wsX6_advance) := goodIn_app (goodIn_of _ (by decide +kernel)) ggX4_readName_X6_advance
set_option maxRecDepth 20000 in
theorem ggX4_readName_X4_failAt : GoodIn wsX4_readName wsX4_failAt := goodIn_r _ [85, 86, 87, 100, 101, 102, 103, 104, 105, 106, 107] rfl (by decide +kernel)
set_option maxRecDepth 20000 in
theorem gX4_readName_X4_failAt : GoodIn wsX4_readName (wsV RX4 76 RX4 yX4_failAt wsX4_failAt) := goodIn_app (goodIn_of _ (by decide +kernel)) ggX4_readName_X4_failAt
set_option maxRecDepth 20000 in
theorem ggX4_readTest_X4_measureNamed : GoodIn wsX4_readTest wsX4_measureNamed := goodIn_r _ [7, 1, 8, 9, 10, 11, 12, 13, 14, 15, 16, 17, 18, 19, 20, 21, 22, 23, 24, 25, 26, 27, 28, 29, 30, 31, 32, 33, 34, 35, 36, 37, 38, 39, 40, 41, 42, 43, 44, 45, 46, 47, 48, 49, 50, 51, 52, 53, 54, 55, 56, 57, 58, 59, 60, 61, 62, 63, 64, 65, 66, 67, 68, 69, 70, 108, 109, 110, 111, 112, 113, 114, 115, 116, 117, 118, 119, 120] rfl (by decide +kernel)
set_option maxRecDepth 20000 in
theorem gX4_readTest_X4_measureNamed : GoodIn wsX4_readTest (wsV RX4 110 RX4 yX4_measureNamed wsX4_measureNamed) := goodIn_app (goodIn_of _ (by decide +kernel)) ggX4_readTest_X4_measureNamed
set_option maxRecDepth 20000 in
theorem ggX4_readTest_X6_advance : GoodIn wsX4_readTest wsX6_advance := goodIn_r _ [85, 14, 32, 15, 13, 28, 29, 30, 11, 31, 33, 86, 87, 88, 116, 117, 118, 119, 120] rfl (by decide +kernel)
set_option maxRecDepth 20000 in
theorem gX4_readTest_X6_advance : GoodIn wsX4_readTest (wsV RX4 94 RX6 yX6_advance wsX6_advance) := goodIn_app (goodIn_of _ (by decide +kernel)) ggX4_readTest_X6_advance
set_option maxRecDepth 20000 in
theorem ggX4_readTest_X4_readNumber : GoodIn wsX4_readTest wsX4_readNumber := goodIn_r _ [92, 1, 93, 94, 75, 2, 71, 72, 73, 6, 74, 76, 77, 78, 79, 80, 81, 95, 96, 97, 11, 98, 15, 14, 28, 29, 30, 31, 32, 33, 82, 83, 84, 85, 13, 86, 87, 88, 108, 109, 110, 111, 112, 113, 114, 115, 116, 117, 118, 119, 120] rfl (by decide +kernel)
set_option maxRecDepth 20000 in
theorem gX4_readTest_X4_readNumber : GoodIn wsX4_readTest (wsV RX4 53 RX4 yX4_readNumber wsX4_readNumber) := goodIn_app (goodIn_of _ (by decide +kernel)) ggX4_readTest_X4_readNumber
set_option maxRecDepth 20000 in
theorem ggX4_readTest_X6_isWord : GoodIn wsX4_readTest wsX6_isWord := goodIn_r _ [12, 13, 14, 15, 16, 17, 18, 19, 20, 21, 22, 23, 24, 25, 26, 27, 28, 29, 30, 11, 31, 32, 33, 34, 35, 36, 37, 38, 39, 40, 41, 42, 43, 44, 45, 46, 47, 48, 49, 50, 51, 52, 53, 54, 55, 56, 57, 58, 59, 60, 61, 62, 63, 64, 65, 66, 67, 68, 69, 70, 116, 117, 118, 119, 120] rfl (by decide +kernel)
set_option maxRecDepth 20000 in
theorem gX4_readTest_X6_isWord : GoodIn wsX4_readTest (wsV RX4 99 RX6 yX6_isWord wsX6_isWord) := goodIn_app (goodIn_of _ (by decide +kernel)) ggX4_readTest_X6_isWord
set_option maxRecDepth 20000 in
theorem ggX4_readTest_X4_failHere : GoodIn wsX4_readTest wsX4_failHere := goodIn_r _ [74, 1, 75, 76, 77, 78, 6, 79, 80, 81, 108, 109, 110, 111, 112, 113, 114, 115, 116, 117, 118, 119, 120] rfl (by decide +kernel)
set_option maxRecDepth 20000 in
theorem gX4_readTest_X4_failHere : GoodIn wsX4_readTest (wsV RX4 64 RX4 yX4_failHere wsX4_failHere) := goodIn_app (goodIn_of _ (by decide +kernel)) ggX4_readTest_X4_failHere
set_option maxRecDepth 20000 in
theorem ggX4_readTest_X4_testCode : GoodIn wsX4_readTest wsX4_testCode := goodIn_r _ [101] rfl (by decide +kernel)
set_option maxRecDepth 20000 in
theorem gX4_readTest_X4_testCode : GoodIn wsX4_readTest (va_wsS RX4 133 yX4_testCode wsX4_testCode) := goodIn_app (goodIn_of _ (by decide +kernel)) ggX4_readTest_X4_testCode
set_option maxRecDepth 20000 in
theorem ggX4_readTest_X4_addCode : GoodIn wsX4_readTest wsX4_addCode := goodIn_r _ [105, 106, 107, 108, 109, 110, 111, 112, 113, 114, 115] rfl (by decide +kernel)
set_option maxRecDepth 20000 in
theorem gX4_readTest_X4_addCode : GoodIn wsX4_readTest (wsV RX4 126 RX4 yX4_addCode wsX4_addCode) := goodIn_app (goodIn_of _ (by decide +kernel)) ggX4_readTest_X4_addCode
/-- the reader and its tape, at their places; the tape's length is told -/
def RS (ρ : Nat → Nat) (ws : va_W) (tys : List (ClassId × FieldType)) (rd krd tp ktp cd bb tl : Nat) : Prop := ∃ (ts te cc : Nat) (r1 : Int64) (r2 r3 r4 r7 y1 : Int32), ts ≤ te ∧ te ≤ tl ∧ tl ≤ 400 ∧ cc ≤ 200 ∧ ws[krd]? = some (rd, .inr (4, [.ref tp, .long r1, .int r2, .int r3, .int r4, .ref cd, .int (nI cc), .int r7])) ∧ ws[ktp]? = some (tp, .inr (6, [.int (nI tl), .int y1, .int (nI ts), .int (nI te), .ref bb])) ∧ ρ krd = 0 ∧ ρ ktp = 0 ∧ aI ρ ws tys cd 200 ∧ aI ρ ws tys bb 400
set_option maxHeartbeats 4000000 in
set_option maxRecDepth 100000 in
theorem r_failAt (l : Launch) (D : va_G) (ρ : Nat → Nat) (ws : va_W) (tys : List (ClassId × FieldType)) (adK adV : Nat → Nat) (fo : Option Nat) (rd krd tp ktp cd bb tl : Nat) (a1 a2 : Int32) (sz : Nat) (R0 : RS ρ ws tys rd krd tp ktp cd bb tl)  : Met l yX4_failAt wsX4_failAt ({ frames := 0, cells := 0, slots := 0, locals := 0 }) (va_Pc [.ref rd, .int a1, .int a2] (fun U => U.heap.size = sz ∧ va_P D vwCl ws U.heap ∧ va_K D vwCl tys U ∧ va_D (fun _ => True) ws ∧ SZ adK adV fo (va_A ws sz) U U.heap)) (va_Qi (fun (r : Int32) (_ : Unit) => r = 0) (fun (_ : Unit) (t : State) => ∃ (ws' : va_W) (tys' : List (ClassId × FieldType)), sm ρ [4, 6] ws ws' ∧ tyx tys tys' ∧ va_P D vwCl ws' t.heap ∧ va_K D vwCl tys' t ∧ va_D (va_A ws sz) ws' ∧ (RS ρ ws' tys' rd krd tp ktp cd bb tl)) (va_A ws sz)) 0 0 (va_A ws sz) := by
  refine Met.ofW (cc := cX4_failAt) (maxL := 3) (ret := (some .boolean)) (by decide) rfl ?_
  intro p e s m args below meth c s₁ B hml hv
  obtain ⟨rfl, hsz, hP, hK, hD0, hsz9⟩ := hv
  have hx := B.exec
  have hb := B.bytes
  have hr := B.returns
  have hts := atoms_spec (ws := wsX4_failAt) B.pre
  have hown : s.vm.findClass RX4 = some m.cls := findClass_of_methodNamed B.named
  have hlocks := B.notSynchronized
  subst hsz
  have hD := hD0.self (sz := s.heap.size)
  generalize hAe : va_A ws s.heap.size = A at hD hsz9 ⊢
  have hA : ∀ q : Nat, s.heap.size ≤ q → A q := fun q h => by rw [← hAe]; exact Or.inr h
  have hS : va_S A s.heap s.heap [] := va_S.rf
  have hsm : sm ρ [4, 6] ws ws := sm.rf ws
  have htx : tyx tys tys := tyx.rf tys
  have hin4 : ∀ w ∈ u_ws RX4 TX4 8, w ∈ wsX4_failAt := (fun _ h9 => List.mem_cons_of_mem _ ((List.mem_append_right _ h9)))
  have hl := lv_entry ([.ref rd, .int a1, .int a2]) (n := 3) (Nat.le_of_ble_eq_true rfl)
  rw [lg_entry_eq]
  generalize (lg_sl ([.ref rd, .int a1, .int a2]) ++ List.replicate (3 - (lg_sl ([.ref rd, .int a1, .int a2])).length) Slot.unset).toArray = ls at hl ⊢
  have hl : lv_has ls 3 [(0, .ref rd), (1, .int a1), (2, .int a2)] := hl
  obtain ⟨ts_1, te_2, cc_3, ra_4, rb_5, rc_6, rv_7, re_8, ya_9, h1_10, h2_11, h3_12, h4_13, er_14, et_15, wr_16, wt_17, ⟨k_18, c9_19, t_20, f_21, e_22, u_23, w_24⟩, ⟨k_25, c9_26, t_27, f_28, e_29, u_30, w_31⟩⟩ := id R0
  refine lv_aload_n hx hb dX4_failAt_0 rfl (lv_at hl 0 rfl) ?_
  refine lv_iload_n hx hb dX4_failAt_1 rfl (lv_at hl 1 rfl) ?_
  refine va_put (D := D) (ci := 4) (v := .int a1) (ty := .int) (C := RX4) (T := TX4) (N := 8) hx hb hts hin4 tyX4 tyX4_ok nmX4 hown hK hP hD hS krd er_14 rfl 3 (by decide) (hts (.fieldLink RX4 26 "HoneyHouse$RuleReader" "faultKind" "I") (List.mem_of_getElem? (i := 1) rfl)) (fun _ h9 => h9) rfl (tyX4_ok 3 (by decide)) rfl rfl (Nat.le_of_ble_eq_true rfl) dX4_failAt_2 (fun H locs hP hD hS => ?_)
  have hP : va_P D vwCl (ws.set krd (rd, .inr (4, [.ref tp, .long ra_4, .int rb_5, .int a1, .int rv_7, .ref cd, .int (nI cc_3), .int re_8]))) H := hP
  have hD : va_D A (ws.set krd (rd, .inr (4, [.ref tp, .long ra_4, .int rb_5, .int a1, .int rv_7, .ref cd, .int (nI cc_3), .int re_8]))) := hD
  have hm_33 : sm ρ [4] ws (ws.set krd (rd, .inr (4, [.ref tp, .long ra_4, .int rb_5, .int a1, .int rv_7, .ref cd, .int (nI cc_3), .int re_8]))) := sm.flds er_14 (smF.c (smV.rf _) (smF.c (smV.rf _) (smF.c (smV.rf _) (smF.c (smV.i _ _) (smF.c (smV.rf _) (smF.c (smV.rf _) (smF.c (smV.rf _) (smF.c (smV.rf _) (rfl))))))))) (List.mem_singleton.mpr rfl) wr_16
  have e_34 : (ws.set krd (rd, .inr (4, [.ref tp, .long ra_4, .int rb_5, .int a1, .int rv_7, .ref cd, .int (nI cc_3), .int re_8])))[krd]? = some (rd, .inr (4, [.ref tp, .long ra_4, .int rb_5, .int a1, .int rv_7, .ref cd, .int (nI cc_3), .int re_8])) := wset_self er_14
  generalize ws.set krd (rd, .inr (4, [.ref tp, .long ra_4, .int rb_5, .int a1, .int rv_7, .ref cd, .int (nI cc_3), .int re_8])) = ws_32 at hP hD hm_33 e_34
  have e_35 := hm_33.objK et_15 (by decide)
  obtain ⟨f_37, e_36⟩ := hm_33.arrI e_22
  obtain ⟨f_39, e_38⟩ := hm_33.arrI e_29
  have hsm := hsm.tr (hm_33.mono (by decide))
  refine lv_aload_n hx hb dX4_failAt_5 rfl (lv_at hl 0 rfl) ?_
  refine lv_iload_n hx hb dX4_failAt_6 rfl (lv_at hl 2 rfl) ?_
  refine va_put (D := D) (ci := 4) (v := .int a2) (ty := .int) (C := RX4) (T := TX4) (N := 8) hx hb hts hin4 tyX4 tyX4_ok nmX4 hown hK hP hD hS krd e_34 rfl 4 (by decide) (hts (.fieldLink RX4 18 "HoneyHouse$RuleReader" "faultPlace" "I") (List.mem_of_getElem? (i := 2) rfl)) (fun _ h9 => h9) rfl (tyX4_ok 4 (by decide)) rfl rfl (Nat.le_of_ble_eq_true rfl) dX4_failAt_7 (fun H locs hP hD hS => ?_)
  have hP : va_P D vwCl (ws_32.set krd (rd, .inr (4, [.ref tp, .long ra_4, .int rb_5, .int a1, .int a2, .ref cd, .int (nI cc_3), .int re_8]))) H := hP
  have hD : va_D A (ws_32.set krd (rd, .inr (4, [.ref tp, .long ra_4, .int rb_5, .int a1, .int a2, .ref cd, .int (nI cc_3), .int re_8]))) := hD
  have hm_41 : sm ρ [4] ws_32 (ws_32.set krd (rd, .inr (4, [.ref tp, .long ra_4, .int rb_5, .int a1, .int a2, .ref cd, .int (nI cc_3), .int re_8]))) := sm.flds e_34 (smF.c (smV.rf _) (smF.c (smV.rf _) (smF.c (smV.rf _) (smF.c (smV.rf _) (smF.c (smV.i _ _) (smF.c (smV.rf _) (smF.c (smV.rf _) (smF.c (smV.rf _) (rfl))))))))) (List.mem_singleton.mpr rfl) wr_16
  have e_42 : (ws_32.set krd (rd, .inr (4, [.ref tp, .long ra_4, .int rb_5, .int a1, .int a2, .ref cd, .int (nI cc_3), .int re_8])))[krd]? = some (rd, .inr (4, [.ref tp, .long ra_4, .int rb_5, .int a1, .int a2, .ref cd, .int (nI cc_3), .int re_8])) := wset_self e_34
  generalize ws_32.set krd (rd, .inr (4, [.ref tp, .long ra_4, .int rb_5, .int a1, .int a2, .ref cd, .int (nI cc_3), .int re_8])) = ws_40 at hP hD hm_41 e_42
  have e_43 := hm_41.objK e_35 (by decide)
  obtain ⟨f_45, e_44⟩ := hm_41.arrI e_36
  obtain ⟨f_47, e_46⟩ := hm_41.arrI e_38
  have hsm := hsm.tr (hm_41.mono (by decide))
  refine lv_iconst (v := 0) hx hb dX4_failAt_10 (by decide) ?_
  exact W.zret (v := 0) hx hb hr rfl (fun t ht hW => ⟨⟨0, (), rfl, rfl, ws_40, tys, hsm, htx, by rw [ht]; exact hP, va_K.moved hW.alike hK, hD, (⟨ts_1, te_2, cc_3, ra_4, rb_5, a1, a2, re_8, ya_9, by omega, by omega, by omega, by omega, e_42, e_43, wr_16, wt_17, ⟨k_18, c9_19, t_20, f_45, e_44, u_23, w_24⟩, ⟨k_25, c9_26, t_27, f_47, e_46, u_30, w_31⟩⟩ : RS ρ ws_40 tys rd krd tp ktp cd bb tl)⟩, hS.F ht⟩) hS.2.2 dX4_failAt_11
set_option maxHeartbeats 4000000 in
set_option maxRecDepth 100000 in
theorem r_failHere (l : Launch) (D : va_G) (ρ : Nat → Nat) (ws : va_W) (tys : List (ClassId × FieldType)) (adK adV : Nat → Nat) (fo : Option Nat) (rd krd tp ktp cd bb tl : Nat)  (sz : Nat) (R0 : RS ρ ws tys rd krd tp ktp cd bb tl)  : Met l yX4_failHere wsX4_failHere ({ frames := 1, cells := 0, slots := 0, locals := 22 }) (va_Pc [.ref rd] (fun U => U.heap.size = sz ∧ va_P D vwCl ws U.heap ∧ va_K D vwCl tys U ∧ va_D (fun _ => True) ws ∧ SZ adK adV fo (va_A ws sz) U U.heap)) (va_Qi (fun (r : Int32) (_ : Unit) => r = 0) (fun (_ : Unit) (t : State) => ∃ (ws' : va_W) (tys' : List (ClassId × FieldType)), sm ρ [4, 6] ws ws' ∧ tyx tys tys' ∧ va_P D vwCl ws' t.heap ∧ va_K D vwCl tys' t ∧ va_D (va_A ws sz) ws' ∧ (RS ρ ws' tys' rd krd tp ktp cd bb tl)) (va_A ws sz)) 0 0 (va_A ws sz) := by
  refine Met.ofW (cc := cX4_failHere) (maxL := 1) (ret := (some .boolean)) (by decide) rfl ?_
  intro p e s m args below meth c s₁ B hml hv
  obtain ⟨rfl, hsz, hP, hK, hD0, hsz9⟩ := hv
  have hx := B.exec
  have hb := B.bytes
  have hr := B.returns
  have hts := atoms_spec (ws := wsX4_failHere) B.pre
  have hown : s.vm.findClass RX4 = some m.cls := findClass_of_methodNamed B.named
  have hlocks := B.notSynchronized
  subst hsz
  have hD := hD0.self (sz := s.heap.size)
  generalize hAe : va_A ws s.heap.size = A at hD hsz9 ⊢
  have hA : ∀ q : Nat, s.heap.size ≤ q → A q := fun q h => by rw [← hAe]; exact Or.inr h
  have hS : va_S A s.heap s.heap [] := va_S.rf
  have hsm : sm ρ [4, 6] ws ws := sm.rf ws
  have htx : tyx tys tys := tyx.rf tys
  have hin4 : ∀ w ∈ u_ws RX4 TX4 8, w ∈ wsX4_failHere := (fun _ h9 => List.mem_cons_of_mem _ (List.mem_append_left _ ((List.mem_append_right _ h9))))
  have hin6 : ∀ w ∈ u_ws RX6 TX6 5, w ∈ wsX4_failHere := (fun _ h9 => List.mem_cons_of_mem _ ((List.mem_append_right _ h9)))
  have hl := lv_entry ([.ref rd]) (n := 1) (Nat.le_of_ble_eq_true rfl)
  rw [lg_entry_eq]
  generalize (lg_sl ([.ref rd]) ++ List.replicate (1 - (lg_sl ([.ref rd])).length) Slot.unset).toArray = ls at hl ⊢
  have hl : lv_has ls 1 [(0, .ref rd)] := hl
  obtain ⟨ts_1, te_2, cc_3, ra_4, rb_5, rc_6, rv_7, re_8, ya_9, h1_10, h2_11, h3_12, h4_13, er_14, et_15, wr_16, wt_17, ⟨k_18, c9_19, t_20, f_21, e_22, u_23, w_24⟩, ⟨k_25, c9_26, t_27, f_28, e_29, u_30, w_31⟩⟩ := id R0
  refine lv_aload_n hx hb dX4_failHere_0 rfl (lv_at hl 0 rfl) ?_
  refine lv_iconst (v := 1) hx hb dX4_failHere_1 (by decide) ?_
  refine lv_aload_n hx hb dX4_failHere_2 rfl (lv_at hl 0 rfl) ?_
  refine va_get (D := D) (ci := 4) (v := .ref tp) (C := RX4) (T := TX4) (N := 8) hx hb hts hin4 hown hK hP krd er_14 rfl 0 (by decide) (hts (.fieldLink RX4 12 "HoneyHouse$RuleReader" "tape" "LHoneyHouse$Tape;") (List.mem_of_getElem? (i := 1) rfl)) (fun _ h9 => h9) rfl dX4_failHere_3 ?_
  refine va_get (D := D) (ci := 6) (v := .int (nI ts_1)) (C := RX6) (T := TX6) (N := 5) hx hb hts hin6 hown hK hP ktp et_15 rfl 2 (by decide) (hts (.fieldLink RX4 73 "HoneyHouse$Tape" "start" "I") (List.mem_of_getElem? (i := 2) rfl)) (fun _ h9 => h9) rfl dX4_failHere_6 ?_
  have hFc := free_all hD hS hA
  refine va_calli (va_runV (As := [.int 1, .int (nI ts_1)]) (rest := []) ⟨hx, hb, hml, hown, hts⟩ (r_failAt l D ρ ws tys adK adV fo rd krd tp ktp cd bb tl 1 (nI ts_1) s.heap.size (⟨ts_1, te_2, cc_3, ra_4, rb_5, rc_6, rv_7, re_8, ya_9, by omega, by omega, by omega, by omega, er_14, et_15, wr_16, wt_17, ⟨k_18, c9_19, t_20, f_21, e_22, u_23, w_24⟩, ⟨k_25, c9_26, t_27, f_28, e_29, u_30, w_31⟩⟩ : RS ρ ws tys rd krd tp ktp cd bb tl)) (cwV 2 hts gX4_failHere_X4_failAt rfl rfl rfl (by decide +kernel) ⟨Nat.le_of_ble_eq_true rfl, Nat.le_of_ble_eq_true rfl⟩) ⟨fun a U g mk q => by obtain ⟨q0, q1, qP, qK, qD, qS⟩ := q; exact ⟨q0, q1, qP, va_K.moved (u := U) (U := U.calling g mk a) (Vm.Alike.refl U.vm) qK, qD, SZ.same rfl rfl qS⟩, va_recv hK hP (ci := 4) (q0 := krd) rfl er_14, fun U hU hW => ⟨rfl, by rw [hU], by rw [hU]; exact hP, va_K.moved hW.alike hK, hD.weaken (fun _ _ _ _ => trivial), hsz9.go hS hW hU hFc⟩⟩ rfl rfl hl.1 rfl (lv_room (Nat.le_of_ble_eq_true rfl)) dX4_failHere_9 ⟨Nat.le_of_ble_eq_true rfl, Nat.le_of_ble_eq_true rfl⟩) hS (fun q _ h => hFc q h) hFc (fun r_32 u t H1 locs ht hvm w_33 hB hz1 hk1 hS => ?_)
  obtain ⟨ws_34, ty_35, hm_36, ht_38, hP1, hK1, hD1, hx_37⟩ := hB
  rw [ht] at hP1
  have hK := va_K.moved hvm.symm hK1
  have hD := hD1.weaken (fun _ _ _ h => hFc _ h)
  generalize H1 = H at hP1 hS ⊢
  have hP := hP1
  obtain ⟨g_40, e_39, h_41⟩ := hm_36.obj er_14
  obtain ⟨z_42, z_43, z_44, z_45, z_46, z_47, rfl⟩ := smX4 h_41
  obtain ⟨g_49, e_48, h_50⟩ := hm_36.obj et_15
  obtain ⟨z_51, z_52, z_53, z_54, rfl⟩ := smX6 h_50
  obtain ⟨f_56, e_55⟩ := hm_36.arrI e_22
  have u_57 := ht_38 _ _ u_23
  obtain ⟨f_59, e_58⟩ := hm_36.arrI e_29
  have u_60 := ht_38 _ _ u_30
  have hsm := hsm.tr (hm_36.mono (by decide))
  have htx := htx.tr ht_38
  obtain ⟨ts_61, te_62, cc_63, ra_64, rb_65, rc_66, rv_67, re_68, ya_69, h1_70, h2_71, h3_72, h4_73, er_74, et_75, wr_76, wt_77, ⟨k_78, c9_79, t_80, f_81, e_82, u_83, w_84⟩, ⟨k_85, c9_86, t_87, f_88, e_89, u_90, w_91⟩⟩ := id hx_37
  subst w_33
  exact W.zret (v := 0) hx hb hr rfl (fun t ht hW => ⟨⟨0, (), rfl, rfl, ws_34, ty_35, hsm, htx, by rw [ht]; exact hP, va_K.moved hW.alike hK, hD, (⟨ts_61, te_62, cc_63, ra_64, rb_65, rc_66, rv_67, re_68, ya_69, by omega, by omega, by omega, by omega, er_74, et_75, wr_76, wt_77, ⟨k_78, c9_79, t_80, f_81, e_82, u_83, w_84⟩, ⟨k_85, c9_86, t_87, f_88, e_89, u_90, w_91⟩⟩ : RS ρ ws_34 ty_35 rd krd tp ktp cd bb tl)⟩, hS.F ht⟩) hS.2.2 dX4_failHere_12
set_option maxHeartbeats 4000000 in
set_option maxRecDepth 100000 in
theorem r_measureNamed (l : Launch) (D : va_G) (ρ : Nat → Nat) (ws : va_W) (tys : List (ClassId × FieldType)) (adK adV : Nat → Nat) (fo : Option Nat) (rd krd tp ktp cd bb tl : Nat)  (sz : Nat) (R0 : RS ρ ws tys rd krd tp ktp cd bb tl)  : Met l yX4_measureNamed wsX4_measureNamed ({ frames := 5, cells := 0, slots := 0, locals := 107 }) (va_Pc [.ref rd] (fun U => U.heap.size = sz ∧ va_P D vwCl ws U.heap ∧ va_K D vwCl tys U ∧ va_D (fun _ => True) ws ∧ SZ adK adV fo (va_A ws sz) U U.heap)) (va_Qi (fun (r : Int32) (_ : Unit) => True) (fun (_ : Unit) (t : State) => ∃ (ws' : va_W) (tys' : List (ClassId × FieldType)), sm ρ [] ws ws' ∧ tyx tys tys' ∧ va_P D vwCl ws' t.heap ∧ va_K D vwCl tys' t ∧ va_D (va_A ws sz) ws' ∧ (True)) (va_A ws sz)) 0 0 (va_A ws sz) := by
  refine Met.ofW (cc := cX4_measureNamed) (maxL := 1) (ret := (some .int)) (by decide) rfl ?_
  intro p e s m args below meth c s₁ B hml hv
  obtain ⟨rfl, hsz, hP, hK, hD0, hsz9⟩ := hv
  have hx := B.exec
  have hb := B.bytes
  have hr := B.returns
  have hts := atoms_spec (ws := wsX4_measureNamed) B.pre
  have hown : s.vm.findClass RX4 = some m.cls := findClass_of_methodNamed B.named
  have hlocks := B.notSynchronized
  subst hsz
  have hD := hD0.self (sz := s.heap.size)
  generalize hAe : va_A ws s.heap.size = A at hD hsz9 ⊢
  have hA : ∀ q : Nat, s.heap.size ≤ q → A q := fun q h => by rw [← hAe]; exact Or.inr h
  have hS : va_S A s.heap s.heap [] := va_S.rf
  have hsm : sm ρ [] ws ws := sm.rf ws
  have htx : tyx tys tys := tyx.rf tys
  have hin4 : ∀ w ∈ u_ws RX4 TX4 8, w ∈ wsX4_measureNamed := (fun _ h9 => List.mem_cons_of_mem _ (List.mem_append_left _ ((List.mem_append_right _ h9))))
  have hl := lv_entry ([.ref rd]) (n := 1) (Nat.le_of_ble_eq_true rfl)
  rw [lg_entry_eq]
  generalize (lg_sl ([.ref rd]) ++ List.replicate (1 - (lg_sl ([.ref rd])).length) Slot.unset).toArray = ls at hl ⊢
  have hl : lv_has ls 1 [(0, .ref rd)] := hl
  obtain ⟨ts_1, te_2, cc_3, ra_4, rb_5, rc_6, rv_7, re_8, ya_9, h1_10, h2_11, h3_12, h4_13, er_14, et_15, wr_16, wt_17, ⟨k_18, c9_19, t_20, f_21, e_22, u_23, w_24⟩, ⟨k_25, c9_26, t_27, f_28, e_29, u_30, w_31⟩⟩ := id R0
  refine lv_aload_n hx hb dX4_measureNamed_0 rfl (lv_at hl 0 rfl) ?_
  refine va_get (D := D) (ci := 4) (v := .ref tp) (C := RX4) (T := TX4) (N := 8) hx hb hts hin4 hown hK hP krd er_14 rfl 0 (by decide) (hts (.fieldLink RX4 12 "HoneyHouse$RuleReader" "tape" "LHoneyHouse$Tape;") (List.mem_of_getElem? (i := 1) rfl)) (fun _ h9 => h9) rfl dX4_measureNamed_1 ?_
  refine va_ldcS hx hb hown hsz9.2.2.2.2.2.2.2.2.2.1 dX4_measureNamed_4 ?_
  have hFc := free_all hD hS hA
  refine va_calli (va_runV (As := [.ref (adK 6)]) (rest := []) ⟨hx, hb, hml, hown, hts⟩ (a_isWord l D ρ ws tys adK adV fo 6 tp ktp tl ya_9 (nI ts_1) (nI te_2) bb k_25 c9_26 t_27 f_28 s.heap.size (by decide) et_15 e_29 u_30) (cwV 1 hts gX4_measureNamed_X6_isWord rfl rfl rfl (by decide +kernel) ⟨Nat.le_of_ble_eq_true rfl, Nat.le_of_ble_eq_true rfl⟩) ⟨fun a U g mk q => by obtain ⟨q0, q1, qP, qK, qD, qS⟩ := q; exact ⟨q0, q1, qP, va_K.moved (u := U) (U := U.calling g mk a) (Vm.Alike.refl U.vm) qK, qD, SZ.same rfl rfl qS⟩, va_recv hK hP (ci := 6) (q0 := ktp) rfl et_15, fun U hU hW => ⟨rfl, by rw [hU], by rw [hU]; exact hP, va_K.moved hW.alike hK, hD.weaken (fun _ _ _ _ => trivial), hsz9.go hS hW hU hFc⟩⟩ rfl rfl hl.1 rfl (lv_room (Nat.le_of_ble_eq_true rfl)) dX4_measureNamed_6 ⟨Nat.le_of_ble_eq_true rfl, Nat.le_of_ble_eq_true rfl⟩) hS (fun q _ h => hFc q h) hFc (fun r_32 u t H1 locs ht hvm w_33 hB hz1 hk1 hS => ?_)
  obtain ⟨ws_34, ty_35, hm_36, ht_38, hP1, hK1, hD1, hx_37⟩ := hB
  rw [ht] at hP1
  have hK := va_K.moved hvm.symm hK1
  have hD := hD1.weaken (fun _ _ _ h => hFc _ h)
  generalize H1 = H at hP1 hS ⊢
  have hP := hP1
  have e_39 := hm_36.objK er_14 (by decide)
  have e_40 := hm_36.objK et_15 (by decide)
  obtain ⟨f_42, e_41⟩ := hm_36.arrI e_22
  have u_43 := ht_38 _ _ u_23
  obtain ⟨f_45, e_44⟩ := hm_36.arrI e_29
  have u_46 := ht_38 _ _ u_30
  have hsm := hsm.tr (hm_36.mono (by decide))
  have htx := htx.tr ht_38
  rcases w_33 with rfl | rfl
  · refine lv_if_eq (tgt := 14) hx hb dX4_measureNamed_9 (by decide) (fun c_47 => ?_) (fun c_47 => absurd (by decide) c_47)
    refine lv_aload_n hx hb dX4_measureNamed_14 rfl (lv_at hl 0 rfl) ?_
    refine va_get (D := D) (ci := 4) (v := .ref tp) (C := RX4) (T := TX4) (N := 8) hx hb hts hin4 hown hK hP krd e_39 rfl 0 (by decide) (hts (.fieldLink RX4 12 "HoneyHouse$RuleReader" "tape" "LHoneyHouse$Tape;") (List.mem_of_getElem? (i := 1) rfl)) (fun _ h9 => h9) rfl dX4_measureNamed_15 ?_
    refine va_ldcS hx hb hown hsz9.2.2.2.2.2.2.2.2.2.2.1 dX4_measureNamed_18 ?_
    have hFc := free_all hD hS hA
    refine va_calli (va_runV (As := [.ref (adK 7)]) (rest := []) ⟨hx, hb, hml, hown, hts⟩ (a_isWord l D ρ ws_34 ty_35 adK adV fo 7 tp ktp tl ya_9 (nI ts_1) (nI te_2) bb k_25 c9_26 t_27 f_45 H.size (by decide) e_40 e_44 u_46) (cwV 1 hts gX4_measureNamed_X6_isWord rfl rfl rfl (by decide +kernel) ⟨Nat.le_of_ble_eq_true rfl, Nat.le_of_ble_eq_true rfl⟩) ⟨fun a U g mk q => by obtain ⟨q0, q1, qP, qK, qD, qS⟩ := q; exact ⟨q0, q1, qP, va_K.moved (u := U) (U := U.calling g mk a) (Vm.Alike.refl U.vm) qK, qD, SZ.same rfl rfl qS⟩, va_recv hK hP (ci := 6) (q0 := ktp) rfl e_40, fun U hU hW => ⟨rfl, by rw [hU], by rw [hU]; exact hP, va_K.moved hW.alike hK, hD.weaken (fun _ _ _ _ => trivial), hsz9.go hS hW hU hFc⟩⟩ rfl rfl hl.1 rfl (lv_room (Nat.le_of_ble_eq_true rfl)) dX4_measureNamed_20 ⟨Nat.le_of_ble_eq_true rfl, Nat.le_of_ble_eq_true rfl⟩) hS (fun q _ h => hFc q h) hFc (fun r_48 u t H1 locs ht hvm w_49 hB hz1 hk1 hS => ?_)
    obtain ⟨ws_50, ty_51, hm_52, ht_54, hP1, hK1, hD1, hx_53⟩ := hB
    rw [ht] at hP1
    have hK := va_K.moved hvm.symm hK1
    have hD := hD1.weaken (fun _ _ _ h => hFc _ h)
    generalize H1 = H at hP1 hS ⊢
    have hP := hP1
    have e_55 := hm_52.objK e_39 (by decide)
    have e_56 := hm_52.objK e_40 (by decide)
    obtain ⟨f_58, e_57⟩ := hm_52.arrI e_41
    have u_59 := ht_54 _ _ u_43
    obtain ⟨f_61, e_60⟩ := hm_52.arrI e_44
    have u_62 := ht_54 _ _ u_46
    have hsm := hsm.tr (hm_52.mono (by decide))
    have htx := htx.tr ht_54
    rcases w_49 with rfl | rfl
    · refine lv_if_eq (tgt := 28) hx hb dX4_measureNamed_23 (by decide) (fun c_63 => ?_) (fun c_63 => absurd (by decide) c_63)
      refine lv_aload_n hx hb dX4_measureNamed_28 rfl (lv_at hl 0 rfl) ?_
      refine va_get (D := D) (ci := 4) (v := .ref tp) (C := RX4) (T := TX4) (N := 8) hx hb hts hin4 hown hK hP krd e_55 rfl 0 (by decide) (hts (.fieldLink RX4 12 "HoneyHouse$RuleReader" "tape" "LHoneyHouse$Tape;") (List.mem_of_getElem? (i := 1) rfl)) (fun _ h9 => h9) rfl dX4_measureNamed_29 ?_
      refine va_ldcS hx hb hown hsz9.2.2.2.2.2.2.2.2.2.2.2.1 dX4_measureNamed_32 ?_
      have hFc := free_all hD hS hA
      refine va_calli (va_runV (As := [.ref (adK 8)]) (rest := []) ⟨hx, hb, hml, hown, hts⟩ (a_isWord l D ρ ws_50 ty_51 adK adV fo 8 tp ktp tl ya_9 (nI ts_1) (nI te_2) bb k_25 c9_26 t_27 f_61 H.size (by decide) e_56 e_60 u_62) (cwV 1 hts gX4_measureNamed_X6_isWord rfl rfl rfl (by decide +kernel) ⟨Nat.le_of_ble_eq_true rfl, Nat.le_of_ble_eq_true rfl⟩) ⟨fun a U g mk q => by obtain ⟨q0, q1, qP, qK, qD, qS⟩ := q; exact ⟨q0, q1, qP, va_K.moved (u := U) (U := U.calling g mk a) (Vm.Alike.refl U.vm) qK, qD, SZ.same rfl rfl qS⟩, va_recv hK hP (ci := 6) (q0 := ktp) rfl e_56, fun U hU hW => ⟨rfl, by rw [hU], by rw [hU]; exact hP, va_K.moved hW.alike hK, hD.weaken (fun _ _ _ _ => trivial), hsz9.go hS hW hU hFc⟩⟩ rfl rfl hl.1 rfl (lv_room (Nat.le_of_ble_eq_true rfl)) dX4_measureNamed_34 ⟨Nat.le_of_ble_eq_true rfl, Nat.le_of_ble_eq_true rfl⟩) hS (fun q _ h => hFc q h) hFc (fun r_64 u t H1 locs ht hvm w_65 hB hz1 hk1 hS => ?_)
      obtain ⟨ws_66, ty_67, hm_68, ht_70, hP1, hK1, hD1, hx_69⟩ := hB
      rw [ht] at hP1
      have hK := va_K.moved hvm.symm hK1
      have hD := hD1.weaken (fun _ _ _ h => hFc _ h)
      generalize H1 = H at hP1 hS ⊢
      have hP := hP1
      have e_71 := hm_68.objK e_55 (by decide)
      have e_72 := hm_68.objK e_56 (by decide)
      obtain ⟨f_74, e_73⟩ := hm_68.arrI e_57
      have u_75 := ht_70 _ _ u_59
      obtain ⟨f_77, e_76⟩ := hm_68.arrI e_60
      have u_78 := ht_70 _ _ u_62
      have hsm := hsm.tr (hm_68.mono (by decide))
      have htx := htx.tr ht_70
      rcases w_65 with rfl | rfl
      · refine lv_if_eq (tgt := 42) hx hb dX4_measureNamed_37 (by decide) (fun c_79 => ?_) (fun c_79 => absurd (by decide) c_79)
        refine lv_aload_n hx hb dX4_measureNamed_42 rfl (lv_at hl 0 rfl) ?_
        refine va_get (D := D) (ci := 4) (v := .ref tp) (C := RX4) (T := TX4) (N := 8) hx hb hts hin4 hown hK hP krd e_71 rfl 0 (by decide) (hts (.fieldLink RX4 12 "HoneyHouse$RuleReader" "tape" "LHoneyHouse$Tape;") (List.mem_of_getElem? (i := 1) rfl)) (fun _ h9 => h9) rfl dX4_measureNamed_43 ?_
        refine va_ldcS hx hb hown hsz9.2.2.2.2.2.2.2.2.2.2.2.2.1 dX4_measureNamed_46 ?_
        have hFc := free_all hD hS hA
        refine va_calli (va_runV (As := [.ref (adK 9)]) (rest := []) ⟨hx, hb, hml, hown, hts⟩ (a_isWord l D ρ ws_66 ty_67 adK adV fo 9 tp ktp tl ya_9 (nI ts_1) (nI te_2) bb k_25 c9_26 t_27 f_77 H.size (by decide) e_72 e_76 u_78) (cwV 1 hts gX4_measureNamed_X6_isWord rfl rfl rfl (by decide +kernel) ⟨Nat.le_of_ble_eq_true rfl, Nat.le_of_ble_eq_true rfl⟩) ⟨fun a U g mk q => by obtain ⟨q0, q1, qP, qK, qD, qS⟩ := q; exact ⟨q0, q1, qP, va_K.moved (u := U) (U := U.calling g mk a) (Vm.Alike.refl U.vm) qK, qD, SZ.same rfl rfl qS⟩, va_recv hK hP (ci := 6) (q0 := ktp) rfl e_72, fun U hU hW => ⟨rfl, by rw [hU], by rw [hU]; exact hP, va_K.moved hW.alike hK, hD.weaken (fun _ _ _ _ => trivial), hsz9.go hS hW hU hFc⟩⟩ rfl rfl hl.1 rfl (lv_room (Nat.le_of_ble_eq_true rfl)) dX4_measureNamed_48 ⟨Nat.le_of_ble_eq_true rfl, Nat.le_of_ble_eq_true rfl⟩) hS (fun q _ h => hFc q h) hFc (fun r_80 u t H1 locs ht hvm w_81 hB hz1 hk1 hS => ?_)
        obtain ⟨ws_82, ty_83, hm_84, ht_86, hP1, hK1, hD1, hx_85⟩ := hB
        rw [ht] at hP1
        have hK := va_K.moved hvm.symm hK1
        have hD := hD1.weaken (fun _ _ _ h => hFc _ h)
        generalize H1 = H at hP1 hS ⊢
        have hP := hP1
        have e_87 := hm_84.objK e_71 (by decide)
        have e_88 := hm_84.objK e_72 (by decide)
        obtain ⟨f_90, e_89⟩ := hm_84.arrI e_73
        have u_91 := ht_86 _ _ u_75
        obtain ⟨f_93, e_92⟩ := hm_84.arrI e_76
        have u_94 := ht_86 _ _ u_78
        have hsm := hsm.tr (hm_84.mono (by decide))
        have htx := htx.tr ht_86
        rcases w_81 with rfl | rfl
        · refine lv_if_eq (tgt := 57) hx hb dX4_measureNamed_51 (by decide) (fun c_95 => ?_) (fun c_95 => absurd (by decide) c_95)
          refine lv_aload_n hx hb dX4_measureNamed_57 rfl (lv_at hl 0 rfl) ?_
          refine va_get (D := D) (ci := 4) (v := .ref tp) (C := RX4) (T := TX4) (N := 8) hx hb hts hin4 hown hK hP krd e_87 rfl 0 (by decide) (hts (.fieldLink RX4 12 "HoneyHouse$RuleReader" "tape" "LHoneyHouse$Tape;") (List.mem_of_getElem? (i := 1) rfl)) (fun _ h9 => h9) rfl dX4_measureNamed_58 ?_
          refine va_ldcS hx hb hown hsz9.2.2.2.2.2.2.2.2.2.2.2.2.2 dX4_measureNamed_61 ?_
          have hFc := free_all hD hS hA
          refine va_calli (va_runV (As := [.ref (adK 10)]) (rest := []) ⟨hx, hb, hml, hown, hts⟩ (a_isWord l D ρ ws_82 ty_83 adK adV fo 10 tp ktp tl ya_9 (nI ts_1) (nI te_2) bb k_25 c9_26 t_27 f_93 H.size (by decide) e_88 e_92 u_94) (cwV 1 hts gX4_measureNamed_X6_isWord rfl rfl rfl (by decide +kernel) ⟨Nat.le_of_ble_eq_true rfl, Nat.le_of_ble_eq_true rfl⟩) ⟨fun a U g mk q => by obtain ⟨q0, q1, qP, qK, qD, qS⟩ := q; exact ⟨q0, q1, qP, va_K.moved (u := U) (U := U.calling g mk a) (Vm.Alike.refl U.vm) qK, qD, SZ.same rfl rfl qS⟩, va_recv hK hP (ci := 6) (q0 := ktp) rfl e_88, fun U hU hW => ⟨rfl, by rw [hU], by rw [hU]; exact hP, va_K.moved hW.alike hK, hD.weaken (fun _ _ _ _ => trivial), hsz9.go hS hW hU hFc⟩⟩ rfl rfl hl.1 rfl (lv_room (Nat.le_of_ble_eq_true rfl)) dX4_measureNamed_63 ⟨Nat.le_of_ble_eq_true rfl, Nat.le_of_ble_eq_true rfl⟩) hS (fun q _ h => hFc q h) hFc (fun r_96 u t H1 locs ht hvm w_97 hB hz1 hk1 hS => ?_)
          obtain ⟨ws_98, ty_99, hm_100, ht_102, hP1, hK1, hD1, hx_101⟩ := hB
          rw [ht] at hP1
          have hK := va_K.moved hvm.symm hK1
          have hD := hD1.weaken (fun _ _ _ h => hFc _ h)
          generalize H1 = H at hP1 hS ⊢
          have hP := hP1
          have e_103 := hm_100.objK e_87 (by decide)
          have e_104 := hm_100.objK e_88 (by decide)
          obtain ⟨f_106, e_105⟩ := hm_100.arrI e_89
          have u_107 := ht_102 _ _ u_91
          obtain ⟨f_109, e_108⟩ := hm_100.arrI e_92
          have u_110 := ht_102 _ _ u_94
          have hsm := hsm.tr (hm_100.mono (by decide))
          have htx := htx.tr ht_102
          rcases w_97 with rfl | rfl
          · refine lv_if_eq (tgt := 74) hx hb dX4_measureNamed_66 (by decide) (fun c_111 => ?_) (fun c_111 => absurd (by decide) c_111)
            refine lv_iconst (v := (-1)) hx hb dX4_measureNamed_74 (by decide) ?_
            exact W.iret (v := (-1)) hx hb hr (fun t ht hW => ⟨⟨(-1), (), rfl, trivial, ws_98, ty_99, hsm, htx, by rw [ht]; exact hP, va_K.moved hW.alike hK, hD, trivial⟩, hS.F ht⟩) hS.2.2 dX4_measureNamed_75
          refine lv_if_eq (tgt := 74) hx hb dX4_measureNamed_66 (by decide) (fun c_112 => absurd c_112 (by decide)) (fun c_112 => ?_)
          refine lv_bipush (v := 30) hx hb dX4_measureNamed_69 (by decide) ?_
          refine lv_goto (tgt := 75) hx hb dX4_measureNamed_71 (by decide) ?_
          exact W.iret (v := 30) hx hb hr (fun t ht hW => ⟨⟨30, (), rfl, trivial, ws_98, ty_99, hsm, htx, by rw [ht]; exact hP, va_K.moved hW.alike hK, hD, trivial⟩, hS.F ht⟩) hS.2.2 dX4_measureNamed_75
        refine lv_if_eq (tgt := 57) hx hb dX4_measureNamed_51 (by decide) (fun c_113 => absurd c_113 (by decide)) (fun c_113 => ?_)
        refine lv_bipush (v := 10) hx hb dX4_measureNamed_54 (by decide) ?_
        exact W.iret (v := 10) hx hb hr (fun t ht hW => ⟨⟨10, (), rfl, trivial, ws_82, ty_83, hsm, htx, by rw [ht]; exact hP, va_K.moved hW.alike hK, hD, trivial⟩, hS.F ht⟩) hS.2.2 dX4_measureNamed_56
      refine lv_if_eq (tgt := 42) hx hb dX4_measureNamed_37 (by decide) (fun c_114 => absurd c_114 (by decide)) (fun c_114 => ?_)
      refine lv_iconst (v := 2) hx hb dX4_measureNamed_40 (by decide) ?_
      exact W.iret (v := 2) hx hb hr (fun t ht hW => ⟨⟨2, (), rfl, trivial, ws_66, ty_67, hsm, htx, by rw [ht]; exact hP, va_K.moved hW.alike hK, hD, trivial⟩, hS.F ht⟩) hS.2.2 dX4_measureNamed_41
    refine lv_if_eq (tgt := 28) hx hb dX4_measureNamed_23 (by decide) (fun c_115 => absurd c_115 (by decide)) (fun c_115 => ?_)
    refine lv_iconst (v := 1) hx hb dX4_measureNamed_26 (by decide) ?_
    exact W.iret (v := 1) hx hb hr (fun t ht hW => ⟨⟨1, (), rfl, trivial, ws_50, ty_51, hsm, htx, by rw [ht]; exact hP, va_K.moved hW.alike hK, hD, trivial⟩, hS.F ht⟩) hS.2.2 dX4_measureNamed_27
  refine lv_if_eq (tgt := 14) hx hb dX4_measureNamed_9 (by decide) (fun c_116 => absurd c_116 (by decide)) (fun c_116 => ?_)
  refine lv_iconst (v := 0) hx hb dX4_measureNamed_12 (by decide) ?_
  exact W.iret (v := 0) hx hb hr (fun t ht hW => ⟨⟨0, (), rfl, trivial, ws_34, ty_35, hsm, htx, by rw [ht]; exact hP, va_K.moved hW.alike hK, hD, trivial⟩, hS.F ht⟩) hS.2.2 dX4_measureNamed_13
set_option maxHeartbeats 4000000 in
set_option maxRecDepth 100000 in
theorem r_isAndOr (l : Launch) (D : va_G) (ρ : Nat → Nat) (ws : va_W) (tys : List (ClassId × FieldType)) (adK adV : Nat → Nat) (fo : Option Nat) (rd krd tp ktp cd bb tl : Nat)  (sz : Nat) (R0 : RS ρ ws tys rd krd tp ktp cd bb tl)  : Met l yX4_isAndOr wsX4_isAndOr ({ frames := 5, cells := 0, slots := 0, locals := 107 }) (va_Pc [.ref rd] (fun U => U.heap.size = sz ∧ va_P D vwCl ws U.heap ∧ va_K D vwCl tys U ∧ va_D (fun _ => True) ws ∧ SZ adK adV fo (va_A ws sz) U U.heap)) (va_Qi (fun (r : Int32) (_ : Unit) => r = 0 ∨ r = 1) (fun (_ : Unit) (t : State) => ∃ (ws' : va_W) (tys' : List (ClassId × FieldType)), sm ρ [] ws ws' ∧ tyx tys tys' ∧ va_P D vwCl ws' t.heap ∧ va_K D vwCl tys' t ∧ va_D (va_A ws sz) ws' ∧ (True)) (va_A ws sz)) 0 0 (va_A ws sz) := by
  refine Met.ofW (cc := cX4_isAndOr) (maxL := 1) (ret := (some .boolean)) (by decide) rfl ?_
  intro p e s m args below meth c s₁ B hml hv
  obtain ⟨rfl, hsz, hP, hK, hD0, hsz9⟩ := hv
  have hx := B.exec
  have hb := B.bytes
  have hr := B.returns
  have hts := atoms_spec (ws := wsX4_isAndOr) B.pre
  have hown : s.vm.findClass RX4 = some m.cls := findClass_of_methodNamed B.named
  have hlocks := B.notSynchronized
  subst hsz
  have hD := hD0.self (sz := s.heap.size)
  generalize hAe : va_A ws s.heap.size = A at hD hsz9 ⊢
  have hA : ∀ q : Nat, s.heap.size ≤ q → A q := fun q h => by rw [← hAe]; exact Or.inr h
  have hS : va_S A s.heap s.heap [] := va_S.rf
  have hsm : sm ρ [] ws ws := sm.rf ws
  have htx : tyx tys tys := tyx.rf tys
  have hin4 : ∀ w ∈ u_ws RX4 TX4 8, w ∈ wsX4_isAndOr := (fun _ h9 => List.mem_cons_of_mem _ (List.mem_append_left _ ((List.mem_append_right _ h9))))
  have hl := lv_entry ([.ref rd]) (n := 1) (Nat.le_of_ble_eq_true rfl)
  rw [lg_entry_eq]
  generalize (lg_sl ([.ref rd]) ++ List.replicate (1 - (lg_sl ([.ref rd])).length) Slot.unset).toArray = ls at hl ⊢
  have hl : lv_has ls 1 [(0, .ref rd)] := hl
  obtain ⟨ts_1, te_2, cc_3, ra_4, rb_5, rc_6, rv_7, re_8, ya_9, h1_10, h2_11, h3_12, h4_13, er_14, et_15, wr_16, wt_17, ⟨k_18, c9_19, t_20, f_21, e_22, u_23, w_24⟩, ⟨k_25, c9_26, t_27, f_28, e_29, u_30, w_31⟩⟩ := id R0
  refine lv_aload_n hx hb dX4_isAndOr_0 rfl (lv_at hl 0 rfl) ?_
  refine va_get (D := D) (ci := 4) (v := .ref tp) (C := RX4) (T := TX4) (N := 8) hx hb hts hin4 hown hK hP krd er_14 rfl 0 (by decide) (hts (.fieldLink RX4 12 "HoneyHouse$RuleReader" "tape" "LHoneyHouse$Tape;") (List.mem_of_getElem? (i := 1) rfl)) (fun _ h9 => h9) rfl dX4_isAndOr_1 ?_
  refine va_ldcS hx hb hown hsz9.2.2.2.2.2.1 dX4_isAndOr_4 ?_
  have hFc := free_all hD hS hA
  refine va_calli (va_runV (As := [.ref (adK 2)]) (rest := []) ⟨hx, hb, hml, hown, hts⟩ (a_isWord l D ρ ws tys adK adV fo 2 tp ktp tl ya_9 (nI ts_1) (nI te_2) bb k_25 c9_26 t_27 f_28 s.heap.size (by decide) et_15 e_29 u_30) (cwV 1 hts gX4_isAndOr_X6_isWord rfl rfl rfl (by decide +kernel) ⟨Nat.le_of_ble_eq_true rfl, Nat.le_of_ble_eq_true rfl⟩) ⟨fun a U g mk q => by obtain ⟨q0, q1, qP, qK, qD, qS⟩ := q; exact ⟨q0, q1, qP, va_K.moved (u := U) (U := U.calling g mk a) (Vm.Alike.refl U.vm) qK, qD, SZ.same rfl rfl qS⟩, va_recv hK hP (ci := 6) (q0 := ktp) rfl et_15, fun U hU hW => ⟨rfl, by rw [hU], by rw [hU]; exact hP, va_K.moved hW.alike hK, hD.weaken (fun _ _ _ _ => trivial), hsz9.go hS hW hU hFc⟩⟩ rfl rfl hl.1 rfl (lv_room (Nat.le_of_ble_eq_true rfl)) dX4_isAndOr_6 ⟨Nat.le_of_ble_eq_true rfl, Nat.le_of_ble_eq_true rfl⟩) hS (fun q _ h => hFc q h) hFc (fun r_32 u t H1 locs ht hvm w_33 hB hz1 hk1 hS => ?_)
  obtain ⟨ws_34, ty_35, hm_36, ht_38, hP1, hK1, hD1, hx_37⟩ := hB
  rw [ht] at hP1
  have hK := va_K.moved hvm.symm hK1
  have hD := hD1.weaken (fun _ _ _ h => hFc _ h)
  generalize H1 = H at hP1 hS ⊢
  have hP := hP1
  have e_39 := hm_36.objK er_14 (by decide)
  have e_40 := hm_36.objK et_15 (by decide)
  obtain ⟨f_42, e_41⟩ := hm_36.arrI e_22
  have u_43 := ht_38 _ _ u_23
  obtain ⟨f_45, e_44⟩ := hm_36.arrI e_29
  have u_46 := ht_38 _ _ u_30
  have hsm := hsm.tr (hm_36.mono (by decide))
  have htx := htx.tr ht_38
  rcases w_33 with rfl | rfl
  · refine lv_if_ne (tgt := 24) hx hb dX4_isAndOr_9 (by decide) (fun c_47 => absurd (by decide) c_47) (fun c_47 => ?_)
    refine lv_aload_n hx hb dX4_isAndOr_12 rfl (lv_at hl 0 rfl) ?_
    refine va_get (D := D) (ci := 4) (v := .ref tp) (C := RX4) (T := TX4) (N := 8) hx hb hts hin4 hown hK hP krd e_39 rfl 0 (by decide) (hts (.fieldLink RX4 12 "HoneyHouse$RuleReader" "tape" "LHoneyHouse$Tape;") (List.mem_of_getElem? (i := 1) rfl)) (fun _ h9 => h9) rfl dX4_isAndOr_13 ?_
    refine va_ldcS hx hb hown hsz9.2.2.2.2.1 dX4_isAndOr_16 ?_
    have hFc := free_all hD hS hA
    refine va_calli (va_runV (As := [.ref (adK 1)]) (rest := []) ⟨hx, hb, hml, hown, hts⟩ (a_isWord l D ρ ws_34 ty_35 adK adV fo 1 tp ktp tl ya_9 (nI ts_1) (nI te_2) bb k_25 c9_26 t_27 f_45 H.size (by decide) e_40 e_44 u_46) (cwV 1 hts gX4_isAndOr_X6_isWord rfl rfl rfl (by decide +kernel) ⟨Nat.le_of_ble_eq_true rfl, Nat.le_of_ble_eq_true rfl⟩) ⟨fun a U g mk q => by obtain ⟨q0, q1, qP, qK, qD, qS⟩ := q; exact ⟨q0, q1, qP, va_K.moved (u := U) (U := U.calling g mk a) (Vm.Alike.refl U.vm) qK, qD, SZ.same rfl rfl qS⟩, va_recv hK hP (ci := 6) (q0 := ktp) rfl e_40, fun U hU hW => ⟨rfl, by rw [hU], by rw [hU]; exact hP, va_K.moved hW.alike hK, hD.weaken (fun _ _ _ _ => trivial), hsz9.go hS hW hU hFc⟩⟩ rfl rfl hl.1 rfl (lv_room (Nat.le_of_ble_eq_true rfl)) dX4_isAndOr_18 ⟨Nat.le_of_ble_eq_true rfl, Nat.le_of_ble_eq_true rfl⟩) hS (fun q _ h => hFc q h) hFc (fun r_48 u t H1 locs ht hvm w_49 hB hz1 hk1 hS => ?_)
    obtain ⟨ws_50, ty_51, hm_52, ht_54, hP1, hK1, hD1, hx_53⟩ := hB
    rw [ht] at hP1
    have hK := va_K.moved hvm.symm hK1
    have hD := hD1.weaken (fun _ _ _ h => hFc _ h)
    generalize H1 = H at hP1 hS ⊢
    have hP := hP1
    have e_55 := hm_52.objK e_39 (by decide)
    have e_56 := hm_52.objK e_40 (by decide)
    obtain ⟨f_58, e_57⟩ := hm_52.arrI e_41
    have u_59 := ht_54 _ _ u_43
    obtain ⟨f_61, e_60⟩ := hm_52.arrI e_44
    have u_62 := ht_54 _ _ u_46
    have hsm := hsm.tr (hm_52.mono (by decide))
    have htx := htx.tr ht_54
    rcases w_49 with rfl | rfl
    · refine lv_if_eq (tgt := 28) hx hb dX4_isAndOr_21 (by decide) (fun c_63 => ?_) (fun c_63 => absurd (by decide) c_63)
      refine lv_iconst (v := 0) hx hb dX4_isAndOr_28 (by decide) ?_
      exact W.zret (v := 0) hx hb hr rfl (fun t ht hW => ⟨⟨0, (), rfl, Or.inl rfl, ws_50, ty_51, hsm, htx, by rw [ht]; exact hP, va_K.moved hW.alike hK, hD, trivial⟩, hS.F ht⟩) hS.2.2 dX4_isAndOr_29
    refine lv_if_eq (tgt := 28) hx hb dX4_isAndOr_21 (by decide) (fun c_64 => absurd c_64 (by decide)) (fun c_64 => ?_)
    refine lv_iconst (v := 1) hx hb dX4_isAndOr_24 (by decide) ?_
    refine lv_goto (tgt := 29) hx hb dX4_isAndOr_25 (by decide) ?_
    exact W.zret (v := 1) hx hb hr rfl (fun t ht hW => ⟨⟨1, (), rfl, Or.inr rfl, ws_50, ty_51, hsm, htx, by rw [ht]; exact hP, va_K.moved hW.alike hK, hD, trivial⟩, hS.F ht⟩) hS.2.2 dX4_isAndOr_29
  refine lv_if_ne (tgt := 24) hx hb dX4_isAndOr_9 (by decide) (fun c_65 => ?_) (fun c_65 => absurd c_65 (by decide))
  refine lv_iconst (v := 1) hx hb dX4_isAndOr_24 (by decide) ?_
  refine lv_goto (tgt := 29) hx hb dX4_isAndOr_25 (by decide) ?_
  exact W.zret (v := 1) hx hb hr rfl (fun t ht hW => ⟨⟨1, (), rfl, Or.inr rfl, ws_34, ty_35, hsm, htx, by rw [ht]; exact hP, va_K.moved hW.alike hK, hD, trivial⟩, hS.F ht⟩) hS.2.2 dX4_isAndOr_29
set_option maxHeartbeats 4000000 in
set_option maxRecDepth 100000 in
theorem r_isKeptWord (l : Launch) (D : va_G) (ρ : Nat → Nat) (ws : va_W) (tys : List (ClassId × FieldType)) (adK adV : Nat → Nat) (fo : Option Nat) (rd krd tp ktp cd bb tl : Nat)  (sz : Nat) (R0 : RS ρ ws tys rd krd tp ktp cd bb tl)  : Met l yX4_isKeptWord wsX4_isKeptWord ({ frames := 6, cells := 0, slots := 0, locals := 127 }) (va_Pc [.ref rd] (fun U => U.heap.size = sz ∧ va_P D vwCl ws U.heap ∧ va_K D vwCl tys U ∧ va_D (fun _ => True) ws ∧ SZ adK adV fo (va_A ws sz) U U.heap)) (va_Qi (fun (r : Int32) (_ : Unit) => r = 0 ∨ r = 1) (fun (_ : Unit) (t : State) => ∃ (ws' : va_W) (tys' : List (ClassId × FieldType)), sm ρ [] ws ws' ∧ tyx tys tys' ∧ va_P D vwCl ws' t.heap ∧ va_K D vwCl tys' t ∧ va_D (va_A ws sz) ws' ∧ (True)) (va_A ws sz)) 0 0 (va_A ws sz) := by
  refine Met.ofW (cc := cX4_isKeptWord) (maxL := 1) (ret := (some .boolean)) (by decide) rfl ?_
  intro p e s m args below meth c s₁ B hml hv
  obtain ⟨rfl, hsz, hP, hK, hD0, hsz9⟩ := hv
  have hx := B.exec
  have hb := B.bytes
  have hr := B.returns
  have hts := atoms_spec (ws := wsX4_isKeptWord) B.pre
  have hown : s.vm.findClass RX4 = some m.cls := findClass_of_methodNamed B.named
  have hlocks := B.notSynchronized
  subst hsz
  have hD := hD0.self (sz := s.heap.size)
  generalize hAe : va_A ws s.heap.size = A at hD hsz9 ⊢
  have hA : ∀ q : Nat, s.heap.size ≤ q → A q := fun q h => by rw [← hAe]; exact Or.inr h
  have hS : va_S A s.heap s.heap [] := va_S.rf
  have hsm : sm ρ [] ws ws := sm.rf ws
  have htx : tyx tys tys := tyx.rf tys
  have hin4 : ∀ w ∈ u_ws RX4 TX4 8, w ∈ wsX4_isKeptWord := (fun _ h9 => List.mem_cons_of_mem _ (List.mem_append_left _ ((List.mem_append_right _ h9))))
  have hl := lv_entry ([.ref rd]) (n := 1) (Nat.le_of_ble_eq_true rfl)
  rw [lg_entry_eq]
  generalize (lg_sl ([.ref rd]) ++ List.replicate (1 - (lg_sl ([.ref rd])).length) Slot.unset).toArray = ls at hl ⊢
  have hl : lv_has ls 1 [(0, .ref rd)] := hl
  obtain ⟨ts_1, te_2, cc_3, ra_4, rb_5, rc_6, rv_7, re_8, ya_9, h1_10, h2_11, h3_12, h4_13, er_14, et_15, wr_16, wt_17, ⟨k_18, c9_19, t_20, f_21, e_22, u_23, w_24⟩, ⟨k_25, c9_26, t_27, f_28, e_29, u_30, w_31⟩⟩ := id R0
  refine lv_aload_n hx hb dX4_isKeptWord_0 rfl (lv_at hl 0 rfl) ?_
  refine va_get (D := D) (ci := 4) (v := .ref tp) (C := RX4) (T := TX4) (N := 8) hx hb hts hin4 hown hK hP krd er_14 rfl 0 (by decide) (hts (.fieldLink RX4 12 "HoneyHouse$RuleReader" "tape" "LHoneyHouse$Tape;") (List.mem_of_getElem? (i := 1) rfl)) (fun _ h9 => h9) rfl dX4_isKeptWord_1 ?_
  refine va_ldcS hx hb hown hsz9.2.2.2.2.1 dX4_isKeptWord_4 ?_
  have hFc := free_all hD hS hA
  refine va_calli (va_runV (As := [.ref (adK 1)]) (rest := []) ⟨hx, hb, hml, hown, hts⟩ (a_isWord l D ρ ws tys adK adV fo 1 tp ktp tl ya_9 (nI ts_1) (nI te_2) bb k_25 c9_26 t_27 f_28 s.heap.size (by decide) et_15 e_29 u_30) (cwV 1 hts gX4_isKeptWord_X6_isWord rfl rfl rfl (by decide +kernel) ⟨Nat.le_of_ble_eq_true rfl, Nat.le_of_ble_eq_true rfl⟩) ⟨fun a U g mk q => by obtain ⟨q0, q1, qP, qK, qD, qS⟩ := q; exact ⟨q0, q1, qP, va_K.moved (u := U) (U := U.calling g mk a) (Vm.Alike.refl U.vm) qK, qD, SZ.same rfl rfl qS⟩, va_recv hK hP (ci := 6) (q0 := ktp) rfl et_15, fun U hU hW => ⟨rfl, by rw [hU], by rw [hU]; exact hP, va_K.moved hW.alike hK, hD.weaken (fun _ _ _ _ => trivial), hsz9.go hS hW hU hFc⟩⟩ rfl rfl hl.1 rfl (lv_room (Nat.le_of_ble_eq_true rfl)) dX4_isKeptWord_6 ⟨Nat.le_of_ble_eq_true rfl, Nat.le_of_ble_eq_true rfl⟩) hS (fun q _ h => hFc q h) hFc (fun r_32 u t H1 locs ht hvm w_33 hB hz1 hk1 hS => ?_)
  obtain ⟨ws_34, ty_35, hm_36, ht_38, hP1, hK1, hD1, hx_37⟩ := hB
  rw [ht] at hP1
  have hK := va_K.moved hvm.symm hK1
  have hD := hD1.weaken (fun _ _ _ h => hFc _ h)
  generalize H1 = H at hP1 hS ⊢
  have hP := hP1
  have e_39 := hm_36.objK er_14 (by decide)
  have e_40 := hm_36.objK et_15 (by decide)
  obtain ⟨f_42, e_41⟩ := hm_36.arrI e_22
  have u_43 := ht_38 _ _ u_23
  obtain ⟨f_45, e_44⟩ := hm_36.arrI e_29
  have u_46 := ht_38 _ _ u_30
  have hsm := hsm.tr (hm_36.mono (by decide))
  have htx := htx.tr ht_38
  rcases w_33 with rfl | rfl
  · refine lv_if_ne (tgt := 80) hx hb dX4_isKeptWord_9 (by decide) (fun c_47 => absurd (by decide) c_47) (fun c_47 => ?_)
    refine lv_aload_n hx hb dX4_isKeptWord_12 rfl (lv_at hl 0 rfl) ?_
    refine va_get (D := D) (ci := 4) (v := .ref tp) (C := RX4) (T := TX4) (N := 8) hx hb hts hin4 hown hK hP krd e_39 rfl 0 (by decide) (hts (.fieldLink RX4 12 "HoneyHouse$RuleReader" "tape" "LHoneyHouse$Tape;") (List.mem_of_getElem? (i := 1) rfl)) (fun _ h9 => h9) rfl dX4_isKeptWord_13 ?_
    refine va_ldcS hx hb hown hsz9.2.2.2.2.2.1 dX4_isKeptWord_16 ?_
    have hFc := free_all hD hS hA
    refine va_calli (va_runV (As := [.ref (adK 2)]) (rest := []) ⟨hx, hb, hml, hown, hts⟩ (a_isWord l D ρ ws_34 ty_35 adK adV fo 2 tp ktp tl ya_9 (nI ts_1) (nI te_2) bb k_25 c9_26 t_27 f_45 H.size (by decide) e_40 e_44 u_46) (cwV 1 hts gX4_isKeptWord_X6_isWord rfl rfl rfl (by decide +kernel) ⟨Nat.le_of_ble_eq_true rfl, Nat.le_of_ble_eq_true rfl⟩) ⟨fun a U g mk q => by obtain ⟨q0, q1, qP, qK, qD, qS⟩ := q; exact ⟨q0, q1, qP, va_K.moved (u := U) (U := U.calling g mk a) (Vm.Alike.refl U.vm) qK, qD, SZ.same rfl rfl qS⟩, va_recv hK hP (ci := 6) (q0 := ktp) rfl e_40, fun U hU hW => ⟨rfl, by rw [hU], by rw [hU]; exact hP, va_K.moved hW.alike hK, hD.weaken (fun _ _ _ _ => trivial), hsz9.go hS hW hU hFc⟩⟩ rfl rfl hl.1 rfl (lv_room (Nat.le_of_ble_eq_true rfl)) dX4_isKeptWord_18 ⟨Nat.le_of_ble_eq_true rfl, Nat.le_of_ble_eq_true rfl⟩) hS (fun q _ h => hFc q h) hFc (fun r_48 u t H1 locs ht hvm w_49 hB hz1 hk1 hS => ?_)
    obtain ⟨ws_50, ty_51, hm_52, ht_54, hP1, hK1, hD1, hx_53⟩ := hB
    rw [ht] at hP1
    have hK := va_K.moved hvm.symm hK1
    have hD := hD1.weaken (fun _ _ _ h => hFc _ h)
    generalize H1 = H at hP1 hS ⊢
    have hP := hP1
    have e_55 := hm_52.objK e_39 (by decide)
    have e_56 := hm_52.objK e_40 (by decide)
    obtain ⟨f_58, e_57⟩ := hm_52.arrI e_41
    have u_59 := ht_54 _ _ u_43
    obtain ⟨f_61, e_60⟩ := hm_52.arrI e_44
    have u_62 := ht_54 _ _ u_46
    have hsm := hsm.tr (hm_52.mono (by decide))
    have htx := htx.tr ht_54
    rcases w_49 with rfl | rfl
    · refine lv_if_ne (tgt := 80) hx hb dX4_isKeptWord_21 (by decide) (fun c_63 => absurd (by decide) c_63) (fun c_63 => ?_)
      refine lv_aload_n hx hb dX4_isKeptWord_24 rfl (lv_at hl 0 rfl) ?_
      refine va_get (D := D) (ci := 4) (v := .ref tp) (C := RX4) (T := TX4) (N := 8) hx hb hts hin4 hown hK hP krd e_55 rfl 0 (by decide) (hts (.fieldLink RX4 12 "HoneyHouse$RuleReader" "tape" "LHoneyHouse$Tape;") (List.mem_of_getElem? (i := 1) rfl)) (fun _ h9 => h9) rfl dX4_isKeptWord_25 ?_
      refine va_ldcS hx hb hown hsz9.2.2.2.2.2.2.1 dX4_isKeptWord_28 ?_
      have hFc := free_all hD hS hA
      refine va_calli (va_runV (As := [.ref (adK 3)]) (rest := []) ⟨hx, hb, hml, hown, hts⟩ (a_isWord l D ρ ws_50 ty_51 adK adV fo 3 tp ktp tl ya_9 (nI ts_1) (nI te_2) bb k_25 c9_26 t_27 f_61 H.size (by decide) e_56 e_60 u_62) (cwV 1 hts gX4_isKeptWord_X6_isWord rfl rfl rfl (by decide +kernel) ⟨Nat.le_of_ble_eq_true rfl, Nat.le_of_ble_eq_true rfl⟩) ⟨fun a U g mk q => by obtain ⟨q0, q1, qP, qK, qD, qS⟩ := q; exact ⟨q0, q1, qP, va_K.moved (u := U) (U := U.calling g mk a) (Vm.Alike.refl U.vm) qK, qD, SZ.same rfl rfl qS⟩, va_recv hK hP (ci := 6) (q0 := ktp) rfl e_56, fun U hU hW => ⟨rfl, by rw [hU], by rw [hU]; exact hP, va_K.moved hW.alike hK, hD.weaken (fun _ _ _ _ => trivial), hsz9.go hS hW hU hFc⟩⟩ rfl rfl hl.1 rfl (lv_room (Nat.le_of_ble_eq_true rfl)) dX4_isKeptWord_30 ⟨Nat.le_of_ble_eq_true rfl, Nat.le_of_ble_eq_true rfl⟩) hS (fun q _ h => hFc q h) hFc (fun r_64 u t H1 locs ht hvm w_65 hB hz1 hk1 hS => ?_)
      obtain ⟨ws_66, ty_67, hm_68, ht_70, hP1, hK1, hD1, hx_69⟩ := hB
      rw [ht] at hP1
      have hK := va_K.moved hvm.symm hK1
      have hD := hD1.weaken (fun _ _ _ h => hFc _ h)
      generalize H1 = H at hP1 hS ⊢
      have hP := hP1
      have e_71 := hm_68.objK e_55 (by decide)
      have e_72 := hm_68.objK e_56 (by decide)
      obtain ⟨f_74, e_73⟩ := hm_68.arrI e_57
      have u_75 := ht_70 _ _ u_59
      obtain ⟨f_77, e_76⟩ := hm_68.arrI e_60
      have u_78 := ht_70 _ _ u_62
      have hsm := hsm.tr (hm_68.mono (by decide))
      have htx := htx.tr ht_70
      rcases w_65 with rfl | rfl
      · refine lv_if_ne (tgt := 80) hx hb dX4_isKeptWord_33 (by decide) (fun c_79 => absurd (by decide) c_79) (fun c_79 => ?_)
        refine lv_aload_n hx hb dX4_isKeptWord_36 rfl (lv_at hl 0 rfl) ?_
        refine va_get (D := D) (ci := 4) (v := .ref tp) (C := RX4) (T := TX4) (N := 8) hx hb hts hin4 hown hK hP krd e_71 rfl 0 (by decide) (hts (.fieldLink RX4 12 "HoneyHouse$RuleReader" "tape" "LHoneyHouse$Tape;") (List.mem_of_getElem? (i := 1) rfl)) (fun _ h9 => h9) rfl dX4_isKeptWord_37 ?_
        refine va_ldcS hx hb hown hsz9.2.2.2.2.2.2.2.1 dX4_isKeptWord_40 ?_
        have hFc := free_all hD hS hA
        refine va_calli (va_runV (As := [.ref (adK 4)]) (rest := []) ⟨hx, hb, hml, hown, hts⟩ (a_isWord l D ρ ws_66 ty_67 adK adV fo 4 tp ktp tl ya_9 (nI ts_1) (nI te_2) bb k_25 c9_26 t_27 f_77 H.size (by decide) e_72 e_76 u_78) (cwV 1 hts gX4_isKeptWord_X6_isWord rfl rfl rfl (by decide +kernel) ⟨Nat.le_of_ble_eq_true rfl, Nat.le_of_ble_eq_true rfl⟩) ⟨fun a U g mk q => by obtain ⟨q0, q1, qP, qK, qD, qS⟩ := q; exact ⟨q0, q1, qP, va_K.moved (u := U) (U := U.calling g mk a) (Vm.Alike.refl U.vm) qK, qD, SZ.same rfl rfl qS⟩, va_recv hK hP (ci := 6) (q0 := ktp) rfl e_72, fun U hU hW => ⟨rfl, by rw [hU], by rw [hU]; exact hP, va_K.moved hW.alike hK, hD.weaken (fun _ _ _ _ => trivial), hsz9.go hS hW hU hFc⟩⟩ rfl rfl hl.1 rfl (lv_room (Nat.le_of_ble_eq_true rfl)) dX4_isKeptWord_42 ⟨Nat.le_of_ble_eq_true rfl, Nat.le_of_ble_eq_true rfl⟩) hS (fun q _ h => hFc q h) hFc (fun r_80 u t H1 locs ht hvm w_81 hB hz1 hk1 hS => ?_)
        obtain ⟨ws_82, ty_83, hm_84, ht_86, hP1, hK1, hD1, hx_85⟩ := hB
        rw [ht] at hP1
        have hK := va_K.moved hvm.symm hK1
        have hD := hD1.weaken (fun _ _ _ h => hFc _ h)
        generalize H1 = H at hP1 hS ⊢
        have hP := hP1
        have e_87 := hm_84.objK e_71 (by decide)
        have e_88 := hm_84.objK e_72 (by decide)
        obtain ⟨f_90, e_89⟩ := hm_84.arrI e_73
        have u_91 := ht_86 _ _ u_75
        obtain ⟨f_93, e_92⟩ := hm_84.arrI e_76
        have u_94 := ht_86 _ _ u_78
        have hsm := hsm.tr (hm_84.mono (by decide))
        have htx := htx.tr ht_86
        rcases w_81 with rfl | rfl
        · refine lv_if_ne (tgt := 80) hx hb dX4_isKeptWord_45 (by decide) (fun c_95 => absurd (by decide) c_95) (fun c_95 => ?_)
          refine lv_aload_n hx hb dX4_isKeptWord_48 rfl (lv_at hl 0 rfl) ?_
          refine va_get (D := D) (ci := 4) (v := .ref tp) (C := RX4) (T := TX4) (N := 8) hx hb hts hin4 hown hK hP krd e_87 rfl 0 (by decide) (hts (.fieldLink RX4 12 "HoneyHouse$RuleReader" "tape" "LHoneyHouse$Tape;") (List.mem_of_getElem? (i := 1) rfl)) (fun _ h9 => h9) rfl dX4_isKeptWord_49 ?_
          refine va_ldcS hx hb hown hsz9.2.2.2.2.2.2.2.2.1 dX4_isKeptWord_52 ?_
          have hFc := free_all hD hS hA
          refine va_calli (va_runV (As := [.ref (adK 5)]) (rest := []) ⟨hx, hb, hml, hown, hts⟩ (a_isWord l D ρ ws_82 ty_83 adK adV fo 5 tp ktp tl ya_9 (nI ts_1) (nI te_2) bb k_25 c9_26 t_27 f_93 H.size (by decide) e_88 e_92 u_94) (cwV 1 hts gX4_isKeptWord_X6_isWord rfl rfl rfl (by decide +kernel) ⟨Nat.le_of_ble_eq_true rfl, Nat.le_of_ble_eq_true rfl⟩) ⟨fun a U g mk q => by obtain ⟨q0, q1, qP, qK, qD, qS⟩ := q; exact ⟨q0, q1, qP, va_K.moved (u := U) (U := U.calling g mk a) (Vm.Alike.refl U.vm) qK, qD, SZ.same rfl rfl qS⟩, va_recv hK hP (ci := 6) (q0 := ktp) rfl e_88, fun U hU hW => ⟨rfl, by rw [hU], by rw [hU]; exact hP, va_K.moved hW.alike hK, hD.weaken (fun _ _ _ _ => trivial), hsz9.go hS hW hU hFc⟩⟩ rfl rfl hl.1 rfl (lv_room (Nat.le_of_ble_eq_true rfl)) dX4_isKeptWord_54 ⟨Nat.le_of_ble_eq_true rfl, Nat.le_of_ble_eq_true rfl⟩) hS (fun q _ h => hFc q h) hFc (fun r_96 u t H1 locs ht hvm w_97 hB hz1 hk1 hS => ?_)
          obtain ⟨ws_98, ty_99, hm_100, ht_102, hP1, hK1, hD1, hx_101⟩ := hB
          rw [ht] at hP1
          have hK := va_K.moved hvm.symm hK1
          have hD := hD1.weaken (fun _ _ _ h => hFc _ h)
          generalize H1 = H at hP1 hS ⊢
          have hP := hP1
          have e_103 := hm_100.objK e_87 (by decide)
          have e_104 := hm_100.objK e_88 (by decide)
          obtain ⟨f_106, e_105⟩ := hm_100.arrI e_89
          have u_107 := ht_102 _ _ u_91
          obtain ⟨f_109, e_108⟩ := hm_100.arrI e_92
          have u_110 := ht_102 _ _ u_94
          have hsm := hsm.tr (hm_100.mono (by decide))
          have htx := htx.tr ht_102
          rcases w_97 with rfl | rfl
          · refine lv_if_ne (tgt := 80) hx hb dX4_isKeptWord_57 (by decide) (fun c_111 => absurd (by decide) c_111) (fun c_111 => ?_)
            refine lv_aload_n hx hb dX4_isKeptWord_60 rfl (lv_at hl 0 rfl) ?_
            refine va_get (D := D) (ci := 4) (v := .ref tp) (C := RX4) (T := TX4) (N := 8) hx hb hts hin4 hown hK hP krd e_103 rfl 0 (by decide) (hts (.fieldLink RX4 12 "HoneyHouse$RuleReader" "tape" "LHoneyHouse$Tape;") (List.mem_of_getElem? (i := 1) rfl)) (fun _ h9 => h9) rfl dX4_isKeptWord_61 ?_
            refine va_ldcS hx hb hown hsz9.2.2.2.1 dX4_isKeptWord_64 ?_
            have hFc := free_all hD hS hA
            refine va_calli (va_runV (As := [.ref (adK 0)]) (rest := []) ⟨hx, hb, hml, hown, hts⟩ (a_isWord l D ρ ws_98 ty_99 adK adV fo 0 tp ktp tl ya_9 (nI ts_1) (nI te_2) bb k_25 c9_26 t_27 f_109 H.size (by decide) e_104 e_108 u_110) (cwV 1 hts gX4_isKeptWord_X6_isWord rfl rfl rfl (by decide +kernel) ⟨Nat.le_of_ble_eq_true rfl, Nat.le_of_ble_eq_true rfl⟩) ⟨fun a U g mk q => by obtain ⟨q0, q1, qP, qK, qD, qS⟩ := q; exact ⟨q0, q1, qP, va_K.moved (u := U) (U := U.calling g mk a) (Vm.Alike.refl U.vm) qK, qD, SZ.same rfl rfl qS⟩, va_recv hK hP (ci := 6) (q0 := ktp) rfl e_104, fun U hU hW => ⟨rfl, by rw [hU], by rw [hU]; exact hP, va_K.moved hW.alike hK, hD.weaken (fun _ _ _ _ => trivial), hsz9.go hS hW hU hFc⟩⟩ rfl rfl hl.1 rfl (lv_room (Nat.le_of_ble_eq_true rfl)) dX4_isKeptWord_66 ⟨Nat.le_of_ble_eq_true rfl, Nat.le_of_ble_eq_true rfl⟩) hS (fun q _ h => hFc q h) hFc (fun r_112 u t H1 locs ht hvm w_113 hB hz1 hk1 hS => ?_)
            obtain ⟨ws_114, ty_115, hm_116, ht_118, hP1, hK1, hD1, hx_117⟩ := hB
            rw [ht] at hP1
            have hK := va_K.moved hvm.symm hK1
            have hD := hD1.weaken (fun _ _ _ h => hFc _ h)
            generalize H1 = H at hP1 hS ⊢
            have hP := hP1
            have e_119 := hm_116.objK e_103 (by decide)
            have e_120 := hm_116.objK e_104 (by decide)
            obtain ⟨f_122, e_121⟩ := hm_116.arrI e_105
            have u_123 := ht_118 _ _ u_107
            obtain ⟨f_125, e_124⟩ := hm_116.arrI e_108
            have u_126 := ht_118 _ _ u_110
            have hsm := hsm.tr (hm_116.mono (by decide))
            have htx := htx.tr ht_118
            rcases w_113 with rfl | rfl
            · refine lv_if_ne (tgt := 80) hx hb dX4_isKeptWord_69 (by decide) (fun c_127 => absurd (by decide) c_127) (fun c_127 => ?_)
              refine lv_aload_n hx hb dX4_isKeptWord_72 rfl (lv_at hl 0 rfl) ?_
              have hFc := free_all hD hS hA
              refine va_calli (va_runV (As := []) (rest := []) ⟨hx, hb, hml, hown, hts⟩ (r_measureNamed l D ρ ws_114 ty_115 adK adV fo rd krd tp ktp cd bb tl  H.size (⟨ts_1, te_2, cc_3, ra_4, rb_5, rc_6, rv_7, re_8, ya_9, by omega, by omega, by omega, by omega, e_119, e_120, wr_16, wt_17, ⟨k_18, c9_19, t_20, f_122, e_121, u_123, w_24⟩, ⟨k_25, c9_26, t_27, f_125, e_124, u_126, w_31⟩⟩ : RS ρ ws_114 ty_115 rd krd tp ktp cd bb tl)) (cwV 0 hts gX4_isKeptWord_X4_measureNamed rfl rfl rfl (by decide +kernel) ⟨Nat.le_of_ble_eq_true rfl, Nat.le_of_ble_eq_true rfl⟩) ⟨fun a U g mk q => by obtain ⟨q0, q1, qP, qK, qD, qS⟩ := q; exact ⟨q0, q1, qP, va_K.moved (u := U) (U := U.calling g mk a) (Vm.Alike.refl U.vm) qK, qD, SZ.same rfl rfl qS⟩, va_recv hK hP (ci := 4) (q0 := krd) rfl e_119, fun U hU hW => ⟨rfl, by rw [hU], by rw [hU]; exact hP, va_K.moved hW.alike hK, hD.weaken (fun _ _ _ _ => trivial), hsz9.go hS hW hU hFc⟩⟩ rfl rfl hl.1 rfl (lv_room (Nat.le_of_ble_eq_true rfl)) dX4_isKeptWord_73 ⟨Nat.le_of_ble_eq_true rfl, Nat.le_of_ble_eq_true rfl⟩) hS (fun q _ h => hFc q h) hFc (fun r_128 u t H1 locs ht hvm w_129 hB hz1 hk1 hS => ?_)
              obtain ⟨ws_130, ty_131, hm_132, ht_134, hP1, hK1, hD1, hx_133⟩ := hB
              rw [ht] at hP1
              have hK := va_K.moved hvm.symm hK1
              have hD := hD1.weaken (fun _ _ _ h => hFc _ h)
              generalize H1 = H at hP1 hS ⊢
              have hP := hP1
              have e_135 := hm_132.objK e_119 (by decide)
              have e_136 := hm_132.objK e_120 (by decide)
              obtain ⟨f_138, e_137⟩ := hm_132.arrI e_121
              have u_139 := ht_134 _ _ u_123
              obtain ⟨f_141, e_140⟩ := hm_132.arrI e_124
              have u_142 := ht_134 _ _ u_126
              have hsm := hsm.tr (hm_132.mono (by decide))
              have htx := htx.tr ht_134
              refine lv_iconst (v := (-1)) hx hb dX4_isKeptWord_76 (by decide) ?_
              refine lv_icmp_eq (tgt := 84) hx hb dX4_isKeptWord_77 (by decide) (fun c_143 => ?_) (fun c_143 => ?_)
              · refine lv_iconst (v := 0) hx hb dX4_isKeptWord_84 (by decide) ?_
                exact W.zret (v := 0) hx hb hr rfl (fun t ht hW => ⟨⟨0, (), rfl, Or.inl rfl, ws_130, ty_131, hsm, htx, by rw [ht]; exact hP, va_K.moved hW.alike hK, hD, trivial⟩, hS.F ht⟩) hS.2.2 dX4_isKeptWord_85
              refine lv_iconst (v := 1) hx hb dX4_isKeptWord_80 (by decide) ?_
              refine lv_goto (tgt := 85) hx hb dX4_isKeptWord_81 (by decide) ?_
              exact W.zret (v := 1) hx hb hr rfl (fun t ht hW => ⟨⟨1, (), rfl, Or.inr rfl, ws_130, ty_131, hsm, htx, by rw [ht]; exact hP, va_K.moved hW.alike hK, hD, trivial⟩, hS.F ht⟩) hS.2.2 dX4_isKeptWord_85
            refine lv_if_ne (tgt := 80) hx hb dX4_isKeptWord_69 (by decide) (fun c_144 => ?_) (fun c_144 => absurd c_144 (by decide))
            refine lv_iconst (v := 1) hx hb dX4_isKeptWord_80 (by decide) ?_
            refine lv_goto (tgt := 85) hx hb dX4_isKeptWord_81 (by decide) ?_
            exact W.zret (v := 1) hx hb hr rfl (fun t ht hW => ⟨⟨1, (), rfl, Or.inr rfl, ws_114, ty_115, hsm, htx, by rw [ht]; exact hP, va_K.moved hW.alike hK, hD, trivial⟩, hS.F ht⟩) hS.2.2 dX4_isKeptWord_85
          refine lv_if_ne (tgt := 80) hx hb dX4_isKeptWord_57 (by decide) (fun c_145 => ?_) (fun c_145 => absurd c_145 (by decide))
          refine lv_iconst (v := 1) hx hb dX4_isKeptWord_80 (by decide) ?_
          refine lv_goto (tgt := 85) hx hb dX4_isKeptWord_81 (by decide) ?_
          exact W.zret (v := 1) hx hb hr rfl (fun t ht hW => ⟨⟨1, (), rfl, Or.inr rfl, ws_98, ty_99, hsm, htx, by rw [ht]; exact hP, va_K.moved hW.alike hK, hD, trivial⟩, hS.F ht⟩) hS.2.2 dX4_isKeptWord_85
        refine lv_if_ne (tgt := 80) hx hb dX4_isKeptWord_45 (by decide) (fun c_146 => ?_) (fun c_146 => absurd c_146 (by decide))
        refine lv_iconst (v := 1) hx hb dX4_isKeptWord_80 (by decide) ?_
        refine lv_goto (tgt := 85) hx hb dX4_isKeptWord_81 (by decide) ?_
        exact W.zret (v := 1) hx hb hr rfl (fun t ht hW => ⟨⟨1, (), rfl, Or.inr rfl, ws_82, ty_83, hsm, htx, by rw [ht]; exact hP, va_K.moved hW.alike hK, hD, trivial⟩, hS.F ht⟩) hS.2.2 dX4_isKeptWord_85
      refine lv_if_ne (tgt := 80) hx hb dX4_isKeptWord_33 (by decide) (fun c_147 => ?_) (fun c_147 => absurd c_147 (by decide))
      refine lv_iconst (v := 1) hx hb dX4_isKeptWord_80 (by decide) ?_
      refine lv_goto (tgt := 85) hx hb dX4_isKeptWord_81 (by decide) ?_
      exact W.zret (v := 1) hx hb hr rfl (fun t ht hW => ⟨⟨1, (), rfl, Or.inr rfl, ws_66, ty_67, hsm, htx, by rw [ht]; exact hP, va_K.moved hW.alike hK, hD, trivial⟩, hS.F ht⟩) hS.2.2 dX4_isKeptWord_85
    refine lv_if_ne (tgt := 80) hx hb dX4_isKeptWord_21 (by decide) (fun c_148 => ?_) (fun c_148 => absurd c_148 (by decide))
    refine lv_iconst (v := 1) hx hb dX4_isKeptWord_80 (by decide) ?_
    refine lv_goto (tgt := 85) hx hb dX4_isKeptWord_81 (by decide) ?_
    exact W.zret (v := 1) hx hb hr rfl (fun t ht hW => ⟨⟨1, (), rfl, Or.inr rfl, ws_50, ty_51, hsm, htx, by rw [ht]; exact hP, va_K.moved hW.alike hK, hD, trivial⟩, hS.F ht⟩) hS.2.2 dX4_isKeptWord_85
  refine lv_if_ne (tgt := 80) hx hb dX4_isKeptWord_9 (by decide) (fun c_149 => ?_) (fun c_149 => absurd c_149 (by decide))
  refine lv_iconst (v := 1) hx hb dX4_isKeptWord_80 (by decide) ?_
  refine lv_goto (tgt := 85) hx hb dX4_isKeptWord_81 (by decide) ?_
  exact W.zret (v := 1) hx hb hr rfl (fun t ht hW => ⟨⟨1, (), rfl, Or.inr rfl, ws_34, ty_35, hsm, htx, by rw [ht]; exact hP, va_K.moved hW.alike hK, hD, trivial⟩, hS.F ht⟩) hS.2.2 dX4_isKeptWord_85
set_option maxHeartbeats 4000000 in
set_option maxRecDepth 100000 in
theorem r_readByte (l : Launch) (D : va_G) (ρ : Nat → Nat) (ws : va_W) (tys : List (ClassId × FieldType)) (adK adV : Nat → Nat) (fo : Option Nat) (rd krd tp ktp cd bb tl : Nat) (a1 : Int32) (sz : Nat) (R0 : RS ρ ws tys rd krd tp ktp cd bb tl)  : Met l yX4_readByte wsX4_readByte ({ frames := 2, cells := 0, slots := 0, locals := 43 }) (va_Pc [.ref rd, .int a1] (fun U => U.heap.size = sz ∧ va_P D vwCl ws U.heap ∧ va_K D vwCl tys U ∧ va_D (fun _ => True) ws ∧ SZ adK adV fo (va_A ws sz) U U.heap)) (va_Qi (fun (r : Int32) (_ : Unit) => r = 0 ∨ r = 1) (fun (_ : Unit) (t : State) => ∃ (ws' : va_W) (tys' : List (ClassId × FieldType)), sm ρ [4, 6] ws ws' ∧ tyx tys tys' ∧ va_P D vwCl ws' t.heap ∧ va_K D vwCl tys' t ∧ va_D (va_A ws sz) ws' ∧ (RS ρ ws' tys' rd krd tp ktp cd bb tl)) (va_A ws sz)) 0 0 (va_A ws sz) := by
  refine Met.ofW (cc := cX4_readByte) (maxL := 2) (ret := (some .boolean)) (by decide) rfl ?_
  intro p e s m args below meth c s₁ B hml hv
  obtain ⟨rfl, hsz, hP, hK, hD0, hsz9⟩ := hv
  have hx := B.exec
  have hb := B.bytes
  have hr := B.returns
  have hts := atoms_spec (ws := wsX4_readByte) B.pre
  have hown : s.vm.findClass RX4 = some m.cls := findClass_of_methodNamed B.named
  have hlocks := B.notSynchronized
  subst hsz
  have hD := hD0.self (sz := s.heap.size)
  generalize hAe : va_A ws s.heap.size = A at hD hsz9 ⊢
  have hA : ∀ q : Nat, s.heap.size ≤ q → A q := fun q h => by rw [← hAe]; exact Or.inr h
  have hS : va_S A s.heap s.heap [] := va_S.rf
  have hsm : sm ρ [4, 6] ws ws := sm.rf ws
  have htx : tyx tys tys := tyx.rf tys
  have hin4 : ∀ w ∈ u_ws RX4 TX4 8, w ∈ wsX4_readByte := (fun _ h9 => List.mem_cons_of_mem _ (List.mem_append_left _ ((List.mem_append_right _ h9))))
  have hl := lv_entry ([.ref rd, .int a1]) (n := 2) (Nat.le_of_ble_eq_true rfl)
  rw [lg_entry_eq]
  generalize (lg_sl ([.ref rd, .int a1]) ++ List.replicate (2 - (lg_sl ([.ref rd, .int a1])).length) Slot.unset).toArray = ls at hl ⊢
  have hl : lv_has ls 2 [(0, .ref rd), (1, .int a1)] := hl
  obtain ⟨ts_1, te_2, cc_3, ra_4, rb_5, rc_6, rv_7, re_8, ya_9, h1_10, h2_11, h3_12, h4_13, er_14, et_15, wr_16, wt_17, ⟨k_18, c9_19, t_20, f_21, e_22, u_23, w_24⟩, ⟨k_25, c9_26, t_27, f_28, e_29, u_30, w_31⟩⟩ := id R0
  refine lv_aload_n hx hb dX4_readByte_0 rfl (lv_at hl 0 rfl) ?_
  refine va_get (D := D) (ci := 4) (v := .ref tp) (C := RX4) (T := TX4) (N := 8) hx hb hts hin4 hown hK hP krd er_14 rfl 0 (by decide) (hts (.fieldLink RX4 12 "HoneyHouse$RuleReader" "tape" "LHoneyHouse$Tape;") (List.mem_of_getElem? (i := 1) rfl)) (fun _ h9 => h9) rfl dX4_readByte_1 ?_
  refine lv_iload_n hx hb dX4_readByte_4 rfl (lv_at hl 1 rfl) ?_
  refine vp_callSi (W.runV (As := [.int a1]) (rest := []) ⟨hx, hb, hml, hown, hts⟩ (s_isByte l D ws tys tp ktp tl ya_9 (nI ts_1) (nI te_2) bb k_25 c9_26 t_27 f_28 a1 et_15 e_29 u_30) (cwV 1 hts gX4_readByte_X6_isByte rfl rfl rfl (by decide +kernel) ⟨Nat.le_of_ble_eq_true rfl, Nat.le_of_ble_eq_true rfl⟩) ⟨fun a U g mk q => ⟨q.1, q.2.1, va_K.moved (u := U) (U := U.calling g mk a) (Vm.Alike.refl U.vm) q.2.2⟩, va_recv hK hP (ci := 6) (q0 := ktp) rfl et_15, fun U hU hW => ⟨rfl, by rw [hU]; exact hP, va_K.moved hW.alike hK⟩⟩ rfl rfl hl.1 rfl (lv_room (Nat.le_of_ble_eq_true rfl)) dX4_readByte_5 ⟨Nat.le_of_ble_eq_true rfl, Nat.le_of_ble_eq_true rfl⟩) (fun r_32 k_33 => ?_)
  rcases k_33 with rfl | rfl
  · refine lv_if_ne (tgt := 16) hx hb dX4_readByte_8 (by decide) (fun c_34 => absurd (by decide) c_34) (fun c_34 => ?_)
    refine lv_aload_n hx hb dX4_readByte_11 rfl (lv_at hl 0 rfl) ?_
    have hFc := free_all hD hS hA
    refine va_calli (va_runV (As := []) (rest := []) ⟨hx, hb, hml, hown, hts⟩ (r_failHere l D ρ ws tys adK adV fo rd krd tp ktp cd bb tl  s.heap.size (⟨ts_1, te_2, cc_3, ra_4, rb_5, rc_6, rv_7, re_8, ya_9, by omega, by omega, by omega, by omega, er_14, et_15, wr_16, wt_17, ⟨k_18, c9_19, t_20, f_21, e_22, u_23, w_24⟩, ⟨k_25, c9_26, t_27, f_28, e_29, u_30, w_31⟩⟩ : RS ρ ws tys rd krd tp ktp cd bb tl)) (cwV 0 hts gX4_readByte_X4_failHere rfl rfl rfl (by decide +kernel) ⟨Nat.le_of_ble_eq_true rfl, Nat.le_of_ble_eq_true rfl⟩) ⟨fun a U g mk q => by obtain ⟨q0, q1, qP, qK, qD, qS⟩ := q; exact ⟨q0, q1, qP, va_K.moved (u := U) (U := U.calling g mk a) (Vm.Alike.refl U.vm) qK, qD, SZ.same rfl rfl qS⟩, va_recv hK hP (ci := 4) (q0 := krd) rfl er_14, fun U hU hW => ⟨rfl, by rw [hU], by rw [hU]; exact hP, va_K.moved hW.alike hK, hD.weaken (fun _ _ _ _ => trivial), hsz9.go hS hW hU hFc⟩⟩ rfl rfl hl.1 rfl (lv_room (Nat.le_of_ble_eq_true rfl)) dX4_readByte_12 ⟨Nat.le_of_ble_eq_true rfl, Nat.le_of_ble_eq_true rfl⟩) hS (fun q _ h => hFc q h) hFc (fun r_35 u t H1 locs ht hvm w_36 hB hz1 hk1 hS => ?_)
    obtain ⟨ws_37, ty_38, hm_39, ht_41, hP1, hK1, hD1, hx_40⟩ := hB
    rw [ht] at hP1
    have hK := va_K.moved hvm.symm hK1
    have hD := hD1.weaken (fun _ _ _ h => hFc _ h)
    generalize H1 = H at hP1 hS ⊢
    have hP := hP1
    obtain ⟨g_43, e_42, h_44⟩ := hm_39.obj er_14
    obtain ⟨z_45, z_46, z_47, z_48, z_49, z_50, rfl⟩ := smX4 h_44
    obtain ⟨g_52, e_51, h_53⟩ := hm_39.obj et_15
    obtain ⟨z_54, z_55, z_56, z_57, rfl⟩ := smX6 h_53
    obtain ⟨f_59, e_58⟩ := hm_39.arrI e_22
    have u_60 := ht_41 _ _ u_23
    obtain ⟨f_62, e_61⟩ := hm_39.arrI e_29
    have u_63 := ht_41 _ _ u_30
    have hsm := hsm.tr (hm_39.mono (by decide))
    have htx := htx.tr ht_41
    obtain ⟨ts_64, te_65, cc_66, ra_67, rb_68, rc_69, rv_70, re_71, ya_72, h1_73, h2_74, h3_75, h4_76, er_77, et_78, wr_79, wt_80, ⟨k_81, c9_82, t_83, f_84, e_85, u_86, w_87⟩, ⟨k_88, c9_89, t_90, f_91, e_92, u_93, w_94⟩⟩ := id hx_40
    subst w_36
    exact W.zret (v := 0) hx hb hr rfl (fun t ht hW => ⟨⟨0, (), rfl, Or.inl rfl, ws_37, ty_38, hsm, htx, by rw [ht]; exact hP, va_K.moved hW.alike hK, hD, (⟨ts_64, te_65, cc_66, ra_67, rb_68, rc_69, rv_70, re_71, ya_72, by omega, by omega, by omega, by omega, er_77, et_78, wr_79, wt_80, ⟨k_81, c9_82, t_83, f_84, e_85, u_86, w_87⟩, ⟨k_88, c9_89, t_90, f_91, e_92, u_93, w_94⟩⟩ : RS ρ ws_37 ty_38 rd krd tp ktp cd bb tl)⟩, hS.F ht⟩) hS.2.2 dX4_readByte_15
  refine lv_if_ne (tgt := 16) hx hb dX4_readByte_8 (by decide) (fun c_95 => ?_) (fun c_95 => absurd c_95 (by decide))
  refine lv_aload_n hx hb dX4_readByte_16 rfl (lv_at hl 0 rfl) ?_
  refine va_get (D := D) (ci := 4) (v := .ref tp) (C := RX4) (T := TX4) (N := 8) hx hb hts hin4 hown hK hP krd er_14 rfl 0 (by decide) (hts (.fieldLink RX4 12 "HoneyHouse$RuleReader" "tape" "LHoneyHouse$Tape;") (List.mem_of_getElem? (i := 1) rfl)) (fun _ h9 => h9) rfl dX4_readByte_17 ?_
  have hFc := free_all hD hS hA
  refine va_callv (va_runV (As := []) (rest := []) ⟨hx, hb, hml, hown, hts⟩ (a_advance l D ρ ws tys tp ktp tl te_2 ya_9 (nI ts_1) bb k_25 c9_26 t_27 f_28 s.heap.size (by omega) (by omega) et_15 e_29 u_30 wt_17) (cwV 0 hts gX4_readByte_X6_advance rfl rfl rfl (by decide +kernel) ⟨Nat.le_of_ble_eq_true rfl, Nat.le_of_ble_eq_true rfl⟩) ⟨fun a U g mk q => by obtain ⟨q0, q1, qP, qK, qD⟩ := q; exact ⟨q0, q1, qP, va_K.moved (u := U) (U := U.calling g mk a) (Vm.Alike.refl U.vm) qK, qD⟩, va_recv hK hP (ci := 6) (q0 := ktp) rfl et_15, fun U hU hW => ⟨rfl, by rw [hU], by rw [hU]; exact hP, va_K.moved hW.alike hK, hD.weaken (fun _ _ _ _ => trivial)⟩⟩ rfl rfl hl.1 rfl (lv_room (Nat.le_of_ble_eq_true rfl)) dX4_readByte_20 ⟨Nat.le_of_ble_eq_true rfl, Nat.le_of_ble_eq_true rfl⟩) hS (fun q _ h => hFc q h) hFc (fun u t H1 locs ht hvm w_97 hB hz1 hk1 hS => ?_)
  obtain ⟨ws_98, ty_99, hm_100, ht_102, hP1, hK1, hD1, hx_101⟩ := hB
  rw [ht] at hP1
  have hK := va_K.moved hvm.symm hK1
  have hD := hD1.weaken (fun _ _ _ h => hFc _ h)
  generalize H1 = H at hP1 hS ⊢
  have hP := hP1
  have e_103 := hm_100.objK er_14 (by decide)
  obtain ⟨g_105, e_104, h_106⟩ := hm_100.obj et_15
  obtain ⟨z_107, z_108, z_109, z_110, rfl⟩ := smX6 h_106
  obtain ⟨f_112, e_111⟩ := hm_100.arrI e_22
  have u_113 := ht_102 _ _ u_23
  obtain ⟨f_115, e_114⟩ := hm_100.arrI e_29
  have u_116 := ht_102 _ _ u_30
  have hsm := hsm.tr (hm_100.mono (by decide))
  have htx := htx.tr ht_102
  obtain ⟨k_117, s_118, e_119, h_120, h_121, h_122, e_123⟩ := hx_101
  refine lv_iconst (v := 1) hx hb dX4_readByte_23 (by decide) ?_
  exact W.zret (v := 1) hx hb hr rfl (fun t ht hW => ⟨⟨1, (), rfl, Or.inr rfl, ws_98, ty_99, hsm, htx, by rw [ht]; exact hP, va_K.moved hW.alike hK, hD, (⟨s_118, e_119, cc_3, ra_4, rb_5, rc_6, rv_7, re_8, nI k_117, by omega, by omega, by omega, by omega, e_103, e_123, wr_16, wt_17, ⟨k_18, c9_19, t_20, f_112, e_111, u_113, w_24⟩, ⟨k_25, c9_26, t_27, f_115, e_114, u_116, w_31⟩⟩ : RS ρ ws_98 ty_99 rd krd tp ktp cd bb tl)⟩, hS.F ht⟩) hS.2.2 dX4_readByte_24
set_option maxHeartbeats 4000000 in
set_option maxRecDepth 100000 in
theorem r_readWord (l : Launch) (D : va_G) (ρ : Nat → Nat) (ws : va_W) (tys : List (ClassId × FieldType)) (adK adV : Nat → Nat) (fo : Option Nat) (rd krd tp ktp cd bb tl : Nat) (i9 : Nat) (sz : Nat) (R0 : RS ρ ws tys rd krd tp ktp cd bb tl) (hi9 : i9 < 11) : Met l yX4_readWord wsX4_readWord ({ frames := 5, cells := 0, slots := 0, locals := 107 }) (va_Pc [.ref rd, .ref (adK i9)] (fun U => U.heap.size = sz ∧ va_P D vwCl ws U.heap ∧ va_K D vwCl tys U ∧ va_D (fun _ => True) ws ∧ SZ adK adV fo (va_A ws sz) U U.heap)) (va_Qi (fun (r : Int32) (_ : Unit) => r = 0 ∨ r = 1) (fun (_ : Unit) (t : State) => ∃ (ws' : va_W) (tys' : List (ClassId × FieldType)), sm ρ [4, 6] ws ws' ∧ tyx tys tys' ∧ va_P D vwCl ws' t.heap ∧ va_K D vwCl tys' t ∧ va_D (va_A ws sz) ws' ∧ (RS ρ ws' tys' rd krd tp ktp cd bb tl)) (va_A ws sz)) 0 0 (va_A ws sz) := by
  refine Met.ofW (cc := cX4_readWord) (maxL := 2) (ret := (some .boolean)) (by decide) rfl ?_
  intro p e s m args below meth c s₁ B hml hv
  obtain ⟨rfl, hsz, hP, hK, hD0, hsz9⟩ := hv
  have hx := B.exec
  have hb := B.bytes
  have hr := B.returns
  have hts := atoms_spec (ws := wsX4_readWord) B.pre
  have hown : s.vm.findClass RX4 = some m.cls := findClass_of_methodNamed B.named
  have hlocks := B.notSynchronized
  subst hsz
  have hD := hD0.self (sz := s.heap.size)
  generalize hAe : va_A ws s.heap.size = A at hD hsz9 ⊢
  have hA : ∀ q : Nat, s.heap.size ≤ q → A q := fun q h => by rw [← hAe]; exact Or.inr h
  have hS : va_S A s.heap s.heap [] := va_S.rf
  have hsm : sm ρ [4, 6] ws ws := sm.rf ws
  have htx : tyx tys tys := tyx.rf tys
  have hin4 : ∀ w ∈ u_ws RX4 TX4 8, w ∈ wsX4_readWord := (fun _ h9 => List.mem_cons_of_mem _ (List.mem_append_left _ ((List.mem_append_right _ h9))))
  have hl := lv_entry ([.ref rd, .ref (adK i9)]) (n := 2) (Nat.le_of_ble_eq_true rfl)
  rw [lg_entry_eq]
  generalize (lg_sl ([.ref rd, .ref (adK i9)]) ++ List.replicate (2 - (lg_sl ([.ref rd, .ref (adK i9)])).length) Slot.unset).toArray = ls at hl ⊢
  have hl : lv_has ls 2 [(0, .ref rd), (1, .ref (adK i9))] := hl
  obtain ⟨ts_1, te_2, cc_3, ra_4, rb_5, rc_6, rv_7, re_8, ya_9, h1_10, h2_11, h3_12, h4_13, er_14, et_15, wr_16, wt_17, ⟨k_18, c9_19, t_20, f_21, e_22, u_23, w_24⟩, ⟨k_25, c9_26, t_27, f_28, e_29, u_30, w_31⟩⟩ := id R0
  refine lv_aload_n hx hb dX4_readWord_0 rfl (lv_at hl 0 rfl) ?_
  refine va_get (D := D) (ci := 4) (v := .ref tp) (C := RX4) (T := TX4) (N := 8) hx hb hts hin4 hown hK hP krd er_14 rfl 0 (by decide) (hts (.fieldLink RX4 12 "HoneyHouse$RuleReader" "tape" "LHoneyHouse$Tape;") (List.mem_of_getElem? (i := 1) rfl)) (fun _ h9 => h9) rfl dX4_readWord_1 ?_
  refine lv_aload_n hx hb dX4_readWord_4 rfl (lv_at hl 1 rfl) ?_
  have hFc := free_all hD hS hA
  refine va_calli (va_runV (As := [.ref (adK i9)]) (rest := []) ⟨hx, hb, hml, hown, hts⟩ (a_isWord l D ρ ws tys adK adV fo i9 tp ktp tl ya_9 (nI ts_1) (nI te_2) bb k_25 c9_26 t_27 f_28 s.heap.size hi9 et_15 e_29 u_30) (cwV 1 hts gX4_readWord_X6_isWord rfl rfl rfl (by decide +kernel) ⟨Nat.le_of_ble_eq_true rfl, Nat.le_of_ble_eq_true rfl⟩) ⟨fun a U g mk q => by obtain ⟨q0, q1, qP, qK, qD, qS⟩ := q; exact ⟨q0, q1, qP, va_K.moved (u := U) (U := U.calling g mk a) (Vm.Alike.refl U.vm) qK, qD, SZ.same rfl rfl qS⟩, va_recv hK hP (ci := 6) (q0 := ktp) rfl et_15, fun U hU hW => ⟨rfl, by rw [hU], by rw [hU]; exact hP, va_K.moved hW.alike hK, hD.weaken (fun _ _ _ _ => trivial), hsz9.go hS hW hU hFc⟩⟩ rfl rfl hl.1 rfl (lv_room (Nat.le_of_ble_eq_true rfl)) dX4_readWord_5 ⟨Nat.le_of_ble_eq_true rfl, Nat.le_of_ble_eq_true rfl⟩) hS (fun q _ h => hFc q h) hFc (fun r_32 u t H1 locs ht hvm w_33 hB hz1 hk1 hS => ?_)
  obtain ⟨ws_34, ty_35, hm_36, ht_38, hP1, hK1, hD1, hx_37⟩ := hB
  rw [ht] at hP1
  have hK := va_K.moved hvm.symm hK1
  have hD := hD1.weaken (fun _ _ _ h => hFc _ h)
  generalize H1 = H at hP1 hS ⊢
  have hP := hP1
  have e_39 := hm_36.objK er_14 (by decide)
  have e_40 := hm_36.objK et_15 (by decide)
  obtain ⟨f_42, e_41⟩ := hm_36.arrI e_22
  have u_43 := ht_38 _ _ u_23
  obtain ⟨f_45, e_44⟩ := hm_36.arrI e_29
  have u_46 := ht_38 _ _ u_30
  have hsm := hsm.tr (hm_36.mono (by decide))
  have htx := htx.tr ht_38
  rcases w_33 with rfl | rfl
  · refine lv_if_ne (tgt := 16) hx hb dX4_readWord_8 (by decide) (fun c_47 => absurd (by decide) c_47) (fun c_47 => ?_)
    refine lv_aload_n hx hb dX4_readWord_11 rfl (lv_at hl 0 rfl) ?_
    have hFc := free_all hD hS hA
    refine va_calli (va_runV (As := []) (rest := []) ⟨hx, hb, hml, hown, hts⟩ (r_failHere l D ρ ws_34 ty_35 adK adV fo rd krd tp ktp cd bb tl  H.size (⟨ts_1, te_2, cc_3, ra_4, rb_5, rc_6, rv_7, re_8, ya_9, by omega, by omega, by omega, by omega, e_39, e_40, wr_16, wt_17, ⟨k_18, c9_19, t_20, f_42, e_41, u_43, w_24⟩, ⟨k_25, c9_26, t_27, f_45, e_44, u_46, w_31⟩⟩ : RS ρ ws_34 ty_35 rd krd tp ktp cd bb tl)) (cwV 0 hts gX4_readWord_X4_failHere rfl rfl rfl (by decide +kernel) ⟨Nat.le_of_ble_eq_true rfl, Nat.le_of_ble_eq_true rfl⟩) ⟨fun a U g mk q => by obtain ⟨q0, q1, qP, qK, qD, qS⟩ := q; exact ⟨q0, q1, qP, va_K.moved (u := U) (U := U.calling g mk a) (Vm.Alike.refl U.vm) qK, qD, SZ.same rfl rfl qS⟩, va_recv hK hP (ci := 4) (q0 := krd) rfl e_39, fun U hU hW => ⟨rfl, by rw [hU], by rw [hU]; exact hP, va_K.moved hW.alike hK, hD.weaken (fun _ _ _ _ => trivial), hsz9.go hS hW hU hFc⟩⟩ rfl rfl hl.1 rfl (lv_room (Nat.le_of_ble_eq_true rfl)) dX4_readWord_12 ⟨Nat.le_of_ble_eq_true rfl, Nat.le_of_ble_eq_true rfl⟩) hS (fun q _ h => hFc q h) hFc (fun r_48 u t H1 locs ht hvm w_49 hB hz1 hk1 hS => ?_)
    obtain ⟨ws_50, ty_51, hm_52, ht_54, hP1, hK1, hD1, hx_53⟩ := hB
    rw [ht] at hP1
    have hK := va_K.moved hvm.symm hK1
    have hD := hD1.weaken (fun _ _ _ h => hFc _ h)
    generalize H1 = H at hP1 hS ⊢
    have hP := hP1
    obtain ⟨g_56, e_55, h_57⟩ := hm_52.obj e_39
    obtain ⟨z_58, z_59, z_60, z_61, z_62, z_63, rfl⟩ := smX4 h_57
    obtain ⟨g_65, e_64, h_66⟩ := hm_52.obj e_40
    obtain ⟨z_67, z_68, z_69, z_70, rfl⟩ := smX6 h_66
    obtain ⟨f_72, e_71⟩ := hm_52.arrI e_41
    have u_73 := ht_54 _ _ u_43
    obtain ⟨f_75, e_74⟩ := hm_52.arrI e_44
    have u_76 := ht_54 _ _ u_46
    have hsm := hsm.tr (hm_52.mono (by decide))
    have htx := htx.tr ht_54
    obtain ⟨ts_77, te_78, cc_79, ra_80, rb_81, rc_82, rv_83, re_84, ya_85, h1_86, h2_87, h3_88, h4_89, er_90, et_91, wr_92, wt_93, ⟨k_94, c9_95, t_96, f_97, e_98, u_99, w_100⟩, ⟨k_101, c9_102, t_103, f_104, e_105, u_106, w_107⟩⟩ := id hx_53
    subst w_49
    exact W.zret (v := 0) hx hb hr rfl (fun t ht hW => ⟨⟨0, (), rfl, Or.inl rfl, ws_50, ty_51, hsm, htx, by rw [ht]; exact hP, va_K.moved hW.alike hK, hD, (⟨ts_77, te_78, cc_79, ra_80, rb_81, rc_82, rv_83, re_84, ya_85, by omega, by omega, by omega, by omega, er_90, et_91, wr_92, wt_93, ⟨k_94, c9_95, t_96, f_97, e_98, u_99, w_100⟩, ⟨k_101, c9_102, t_103, f_104, e_105, u_106, w_107⟩⟩ : RS ρ ws_50 ty_51 rd krd tp ktp cd bb tl)⟩, hS.F ht⟩) hS.2.2 dX4_readWord_15
  refine lv_if_ne (tgt := 16) hx hb dX4_readWord_8 (by decide) (fun c_108 => ?_) (fun c_108 => absurd c_108 (by decide))
  refine lv_aload_n hx hb dX4_readWord_16 rfl (lv_at hl 0 rfl) ?_
  refine va_get (D := D) (ci := 4) (v := .ref tp) (C := RX4) (T := TX4) (N := 8) hx hb hts hin4 hown hK hP krd e_39 rfl 0 (by decide) (hts (.fieldLink RX4 12 "HoneyHouse$RuleReader" "tape" "LHoneyHouse$Tape;") (List.mem_of_getElem? (i := 1) rfl)) (fun _ h9 => h9) rfl dX4_readWord_17 ?_
  have hFc := free_all hD hS hA
  refine va_callv (va_runV (As := []) (rest := []) ⟨hx, hb, hml, hown, hts⟩ (a_advance l D ρ ws_34 ty_35 tp ktp tl te_2 ya_9 (nI ts_1) bb k_25 c9_26 t_27 f_45 H.size (by omega) (by omega) e_40 e_44 u_46 wt_17) (cwV 0 hts gX4_readWord_X6_advance rfl rfl rfl (by decide +kernel) ⟨Nat.le_of_ble_eq_true rfl, Nat.le_of_ble_eq_true rfl⟩) ⟨fun a U g mk q => by obtain ⟨q0, q1, qP, qK, qD⟩ := q; exact ⟨q0, q1, qP, va_K.moved (u := U) (U := U.calling g mk a) (Vm.Alike.refl U.vm) qK, qD⟩, va_recv hK hP (ci := 6) (q0 := ktp) rfl e_40, fun U hU hW => ⟨rfl, by rw [hU], by rw [hU]; exact hP, va_K.moved hW.alike hK, hD.weaken (fun _ _ _ _ => trivial)⟩⟩ rfl rfl hl.1 rfl (lv_room (Nat.le_of_ble_eq_true rfl)) dX4_readWord_20 ⟨Nat.le_of_ble_eq_true rfl, Nat.le_of_ble_eq_true rfl⟩) hS (fun q _ h => hFc q h) hFc (fun u t H1 locs ht hvm w_110 hB hz1 hk1 hS => ?_)
  obtain ⟨ws_111, ty_112, hm_113, ht_115, hP1, hK1, hD1, hx_114⟩ := hB
  rw [ht] at hP1
  have hK := va_K.moved hvm.symm hK1
  have hD := hD1.weaken (fun _ _ _ h => hFc _ h)
  generalize H1 = H at hP1 hS ⊢
  have hP := hP1
  have e_116 := hm_113.objK e_39 (by decide)
  obtain ⟨g_118, e_117, h_119⟩ := hm_113.obj e_40
  obtain ⟨z_120, z_121, z_122, z_123, rfl⟩ := smX6 h_119
  obtain ⟨f_125, e_124⟩ := hm_113.arrI e_41
  have u_126 := ht_115 _ _ u_43
  obtain ⟨f_128, e_127⟩ := hm_113.arrI e_44
  have u_129 := ht_115 _ _ u_46
  have hsm := hsm.tr (hm_113.mono (by decide))
  have htx := htx.tr ht_115
  obtain ⟨k_130, s_131, e_132, h_133, h_134, h_135, e_136⟩ := hx_114
  refine lv_iconst (v := 1) hx hb dX4_readWord_23 (by decide) ?_
  exact W.zret (v := 1) hx hb hr rfl (fun t ht hW => ⟨⟨1, (), rfl, Or.inr rfl, ws_111, ty_112, hsm, htx, by rw [ht]; exact hP, va_K.moved hW.alike hK, hD, (⟨s_131, e_132, cc_3, ra_4, rb_5, rc_6, rv_7, re_8, nI k_130, by omega, by omega, by omega, by omega, e_116, e_136, wr_16, wt_17, ⟨k_18, c9_19, t_20, f_125, e_124, u_126, w_24⟩, ⟨k_25, c9_26, t_27, f_128, e_127, u_129, w_31⟩⟩ : RS ρ ws_111 ty_112 rd krd tp ktp cd bb tl)⟩, hS.F ht⟩) hS.2.2 dX4_readWord_24
set_option maxHeartbeats 4000000 in
set_option maxRecDepth 100000 in
theorem r_readNumber (l : Launch) (D : va_G) (ρ : Nat → Nat) (ws : va_W) (tys : List (ClassId × FieldType)) (adK adV : Nat → Nat) (fo : Option Nat) (rd krd tp ktp cd bb tl : Nat) (a1 : Int32) (sz : Nat) (R0 : RS ρ ws tys rd krd tp ktp cd bb tl)  : Met l yX4_readNumber wsX4_readNumber ({ frames := 2, cells := 0, slots := 0, locals := 43 }) (va_Pc [.ref rd, .int a1] (fun U => U.heap.size = sz ∧ va_P D vwCl ws U.heap ∧ va_K D vwCl tys U ∧ va_D (fun _ => True) ws ∧ SZ adK adV fo (va_A ws sz) U U.heap)) (va_Qi (fun (r : Int32) (_ : Unit) => r = 0 ∨ r = 1) (fun (_ : Unit) (t : State) => ∃ (ws' : va_W) (tys' : List (ClassId × FieldType)), sm ρ [4, 6] ws ws' ∧ tyx tys tys' ∧ va_P D vwCl ws' t.heap ∧ va_K D vwCl tys' t ∧ va_D (va_A ws sz) ws' ∧ (RS ρ ws' tys' rd krd tp ktp cd bb tl)) (va_A ws sz)) 0 0 (va_A ws sz) := by
  refine Met.ofW (cc := cX4_readNumber) (maxL := 2) (ret := (some .boolean)) (by decide) rfl ?_
  intro p e s m args below meth c s₁ B hml hv
  obtain ⟨rfl, hsz, hP, hK, hD0, hsz9⟩ := hv
  have hx := B.exec
  have hb := B.bytes
  have hr := B.returns
  have hts := atoms_spec (ws := wsX4_readNumber) B.pre
  have hown : s.vm.findClass RX4 = some m.cls := findClass_of_methodNamed B.named
  have hlocks := B.notSynchronized
  subst hsz
  have hD := hD0.self (sz := s.heap.size)
  generalize hAe : va_A ws s.heap.size = A at hD hsz9 ⊢
  have hA : ∀ q : Nat, s.heap.size ≤ q → A q := fun q h => by rw [← hAe]; exact Or.inr h
  have hS : va_S A s.heap s.heap [] := va_S.rf
  have hsm : sm ρ [4, 6] ws ws := sm.rf ws
  have htx : tyx tys tys := tyx.rf tys
  have hin4 : ∀ w ∈ u_ws RX4 TX4 8, w ∈ wsX4_readNumber := (fun _ h9 => List.mem_cons_of_mem _ (List.mem_append_left _ ((List.mem_append_right _ h9))))
  have hin6 : ∀ w ∈ u_ws RX6 TX6 5, w ∈ wsX4_readNumber := (fun _ h9 => List.mem_cons_of_mem _ ((List.mem_append_right _ h9)))
  have hl := lv_entry ([.ref rd, .int a1]) (n := 2) (Nat.le_of_ble_eq_true rfl)
  rw [lg_entry_eq]
  generalize (lg_sl ([.ref rd, .int a1]) ++ List.replicate (2 - (lg_sl ([.ref rd, .int a1])).length) Slot.unset).toArray = ls at hl ⊢
  have hl : lv_has ls 2 [(0, .ref rd), (1, .int a1)] := hl
  obtain ⟨ts_1, te_2, cc_3, ra_4, rb_5, rc_6, rv_7, re_8, ya_9, h1_10, h2_11, h3_12, h4_13, er_14, et_15, wr_16, wt_17, ⟨k_18, c9_19, t_20, f_21, e_22, u_23, w_24⟩, ⟨k_25, c9_26, t_27, f_28, e_29, u_30, w_31⟩⟩ := id R0
  refine lv_aload_n hx hb dX4_readNumber_0 rfl (lv_at hl 0 rfl) ?_
  refine va_get (D := D) (ci := 4) (v := .ref tp) (C := RX4) (T := TX4) (N := 8) hx hb hts hin4 hown hK hP krd er_14 rfl 0 (by decide) (hts (.fieldLink RX4 12 "HoneyHouse$RuleReader" "tape" "LHoneyHouse$Tape;") (List.mem_of_getElem? (i := 1) rfl)) (fun _ h9 => h9) rfl dX4_readNumber_1 ?_
  refine va_get (D := D) (ci := 6) (v := .int ya_9) (C := RX6) (T := TX6) (N := 5) hx hb hts hin6 hown hK hP ktp et_15 rfl 1 (by decide) (hts (.fieldLink RX4 61 "HoneyHouse$Tape" "kind" "I") (List.mem_of_getElem? (i := 2) rfl)) (fun _ h9 => h9) rfl dX4_readNumber_4 ?_
  refine lv_iconst (v := 2) hx hb dX4_readNumber_7 (by decide) ?_
  refine lv_icmp_eq (tgt := 16) hx hb dX4_readNumber_8 (by decide) (fun c_32 => ?_) (fun c_32 => ?_)
  · refine lv_aload_n hx hb dX4_readNumber_16 rfl (lv_at hl 0 rfl) ?_
    refine va_get (D := D) (ci := 4) (v := .ref tp) (C := RX4) (T := TX4) (N := 8) hx hb hts hin4 hown hK hP krd er_14 rfl 0 (by decide) (hts (.fieldLink RX4 12 "HoneyHouse$RuleReader" "tape" "LHoneyHouse$Tape;") (List.mem_of_getElem? (i := 1) rfl)) (fun _ h9 => h9) rfl dX4_readNumber_17 ?_
    refine va_get (D := D) (ci := 6) (v := .int (nI te_2)) (C := RX6) (T := TX6) (N := 5) hx hb hts hin6 hown hK hP ktp et_15 rfl 3 (by decide) (hts (.fieldLink RX4 83 "HoneyHouse$Tape" "end" "I") (List.mem_of_getElem? (i := 3) rfl)) (fun _ h9 => h9) rfl dX4_readNumber_20 ?_
    refine lv_aload_n hx hb dX4_readNumber_23 rfl (lv_at hl 0 rfl) ?_
    refine va_get (D := D) (ci := 4) (v := .ref tp) (C := RX4) (T := TX4) (N := 8) hx hb hts hin4 hown hK hP krd er_14 rfl 0 (by decide) (hts (.fieldLink RX4 12 "HoneyHouse$RuleReader" "tape" "LHoneyHouse$Tape;") (List.mem_of_getElem? (i := 1) rfl)) (fun _ h9 => h9) rfl dX4_readNumber_24 ?_
    refine va_get (D := D) (ci := 6) (v := .int (nI ts_1)) (C := RX6) (T := TX6) (N := 5) hx hb hts hin6 hown hK hP ktp et_15 rfl 2 (by decide) (hts (.fieldLink RX4 73 "HoneyHouse$Tape" "start" "I") (List.mem_of_getElem? (i := 4) rfl)) (fun _ h9 => h9) rfl dX4_readNumber_27 ?_
    refine lv_isub hx hb dX4_readNumber_30 ?_
    refine lv_topi (fun z_33 _ => ?_)
    refine lv_iconst (v := 5) hx hb dX4_readNumber_31 (by decide) ?_
    refine lv_icmp_le (tgt := 50) hx hb dX4_readNumber_32 (by decide) (fun c_34 => ?_) (fun c_34 => ?_)
    · refine lv_aload_n hx hb dX4_readNumber_50 rfl (lv_at hl 0 rfl) ?_
      refine lv_aload_n hx hb dX4_readNumber_51 rfl (lv_at hl 0 rfl) ?_
      refine va_get (D := D) (ci := 4) (v := .ref tp) (C := RX4) (T := TX4) (N := 8) hx hb hts hin4 hown hK hP krd er_14 rfl 0 (by decide) (hts (.fieldLink RX4 12 "HoneyHouse$RuleReader" "tape" "LHoneyHouse$Tape;") (List.mem_of_getElem? (i := 1) rfl)) (fun _ h9 => h9) rfl dX4_readNumber_52 ?_
      have hFc := free_all hD hS hA
      refine va_calli (va_runV (As := []) (rest := [.ref rd]) ⟨hx, hb, hml, hown, hts⟩ (a_numberValue l D ρ ws tys tp ktp tl ts_1 te_2 ya_9 bb k_25 c9_26 t_27 f_28 s.heap.size (by omega) (by omega) et_15 e_29 u_30) (cwV 0 hts gX4_readNumber_X6_numberValue rfl rfl rfl (by decide +kernel) ⟨Nat.le_of_ble_eq_true rfl, Nat.le_of_ble_eq_true rfl⟩) ⟨fun a U g mk q => by obtain ⟨q0, q1, qP, qK, qD⟩ := q; exact ⟨q0, q1, qP, va_K.moved (u := U) (U := U.calling g mk a) (Vm.Alike.refl U.vm) qK, qD⟩, va_recv hK hP (ci := 6) (q0 := ktp) rfl et_15, fun U hU hW => ⟨rfl, by rw [hU], by rw [hU]; exact hP, va_K.moved hW.alike hK, hD.weaken (fun _ _ _ _ => trivial)⟩⟩ rfl rfl hl.1 rfl (lv_room (Nat.le_of_ble_eq_true rfl)) dX4_readNumber_55 ⟨Nat.le_of_ble_eq_true rfl, Nat.le_of_ble_eq_true rfl⟩) hS (fun q _ h => hFc q h) hFc (fun r_35 u t H1 locs ht hvm w_36 hB hz1 hk1 hS => ?_)
      obtain ⟨ws_37, ty_38, hm_39, ht_41, hP1, hK1, hD1, hx_40⟩ := hB
      rw [ht] at hP1
      have hK := va_K.moved hvm.symm hK1
      have hD := hD1.weaken (fun _ _ _ h => hFc _ h)
      generalize H1 = H at hP1 hS ⊢
      have hP := hP1
      have e_42 := hm_39.objK er_14 (by decide)
      have e_43 := hm_39.objK et_15 (by decide)
      obtain ⟨f_45, e_44⟩ := hm_39.arrI e_22
      have u_46 := ht_41 _ _ u_23
      obtain ⟨f_48, e_47⟩ := hm_39.arrI e_29
      have u_49 := ht_41 _ _ u_30
      have hsm := hsm.tr (hm_39.mono (by decide))
      have htx := htx.tr ht_41
      refine va_put (D := D) (ci := 4) (v := .int r_35) (ty := .int) (C := RX4) (T := TX4) (N := 8) hx hb hts hin4 tyX4 tyX4_ok nmX4 hown hK hP hD hS krd e_42 rfl 7 (by decide) (hts (.fieldLink RX4 56 "HoneyHouse$RuleReader" "value" "I") (List.mem_of_getElem? (i := 5) rfl)) (fun _ h9 => h9) rfl (tyX4_ok 7 (by decide)) rfl rfl (Nat.le_of_ble_eq_true rfl) dX4_readNumber_58 (fun H locs hP hD hS => ?_)
      have hP : va_P D vwCl (ws_37.set krd (rd, .inr (4, [.ref tp, .long ra_4, .int rb_5, .int rc_6, .int rv_7, .ref cd, .int (nI cc_3), .int r_35]))) H := hP
      have hD : va_D A (ws_37.set krd (rd, .inr (4, [.ref tp, .long ra_4, .int rb_5, .int rc_6, .int rv_7, .ref cd, .int (nI cc_3), .int r_35]))) := hD
      have hm_51 : sm ρ [4] ws_37 (ws_37.set krd (rd, .inr (4, [.ref tp, .long ra_4, .int rb_5, .int rc_6, .int rv_7, .ref cd, .int (nI cc_3), .int r_35]))) := sm.flds e_42 (smF.c (smV.rf _) (smF.c (smV.rf _) (smF.c (smV.rf _) (smF.c (smV.rf _) (smF.c (smV.rf _) (smF.c (smV.rf _) (smF.c (smV.rf _) (smF.c (smV.i _ _) (rfl))))))))) (List.mem_singleton.mpr rfl) wr_16
      have e_52 : (ws_37.set krd (rd, .inr (4, [.ref tp, .long ra_4, .int rb_5, .int rc_6, .int rv_7, .ref cd, .int (nI cc_3), .int r_35])))[krd]? = some (rd, .inr (4, [.ref tp, .long ra_4, .int rb_5, .int rc_6, .int rv_7, .ref cd, .int (nI cc_3), .int r_35])) := wset_self e_42
      generalize ws_37.set krd (rd, .inr (4, [.ref tp, .long ra_4, .int rb_5, .int rc_6, .int rv_7, .ref cd, .int (nI cc_3), .int r_35])) = ws_50 at hP hD hm_51 e_52
      have e_53 := hm_51.objK e_43 (by decide)
      obtain ⟨f_55, e_54⟩ := hm_51.arrI e_44
      obtain ⟨f_57, e_56⟩ := hm_51.arrI e_47
      have hsm := hsm.tr (hm_51.mono (by decide))
      refine lv_aload_n hx hb dX4_readNumber_61 rfl (lv_at hl 0 rfl) ?_
      refine va_get (D := D) (ci := 4) (v := .int r_35) (C := RX4) (T := TX4) (N := 8) hx hb hts hin4 hown hK hP krd e_52 rfl 7 (by decide) (hts (.fieldLink RX4 56 "HoneyHouse$RuleReader" "value" "I") (List.mem_of_getElem? (i := 5) rfl)) (fun _ h9 => h9) rfl dX4_readNumber_62 ?_
      refine lv_iload_n hx hb dX4_readNumber_65 rfl (lv_at hl 1 rfl) ?_
      refine lv_icmp_le (tgt := 82) hx hb dX4_readNumber_66 (by decide) (fun c_58 => ?_) (fun c_58 => ?_)
      · refine lv_aload_n hx hb dX4_readNumber_82 rfl (lv_at hl 0 rfl) ?_
        refine va_get (D := D) (ci := 4) (v := .ref tp) (C := RX4) (T := TX4) (N := 8) hx hb hts hin4 hown hK hP krd e_52 rfl 0 (by decide) (hts (.fieldLink RX4 12 "HoneyHouse$RuleReader" "tape" "LHoneyHouse$Tape;") (List.mem_of_getElem? (i := 1) rfl)) (fun _ h9 => h9) rfl dX4_readNumber_83 ?_
        have hFc := free_all hD hS hA
        refine va_callv (va_runV (As := []) (rest := []) ⟨hx, hb, hml, hown, hts⟩ (a_advance l D ρ ws_50 ty_38 tp ktp tl te_2 ya_9 (nI ts_1) bb k_25 c9_26 t_27 f_57 H.size (by omega) (by omega) e_53 e_56 u_49 wt_17) (cwV 0 hts gX4_readNumber_X6_advance rfl rfl rfl (by decide +kernel) ⟨Nat.le_of_ble_eq_true rfl, Nat.le_of_ble_eq_true rfl⟩) ⟨fun a U g mk q => by obtain ⟨q0, q1, qP, qK, qD⟩ := q; exact ⟨q0, q1, qP, va_K.moved (u := U) (U := U.calling g mk a) (Vm.Alike.refl U.vm) qK, qD⟩, va_recv hK hP (ci := 6) (q0 := ktp) rfl e_53, fun U hU hW => ⟨rfl, by rw [hU], by rw [hU]; exact hP, va_K.moved hW.alike hK, hD.weaken (fun _ _ _ _ => trivial)⟩⟩ rfl rfl hl.1 rfl (lv_room (Nat.le_of_ble_eq_true rfl)) dX4_readNumber_86 ⟨Nat.le_of_ble_eq_true rfl, Nat.le_of_ble_eq_true rfl⟩) hS (fun q _ h => hFc q h) hFc (fun u t H1 locs ht hvm w_60 hB hz1 hk1 hS => ?_)
        obtain ⟨ws_61, ty_62, hm_63, ht_65, hP1, hK1, hD1, hx_64⟩ := hB
        rw [ht] at hP1
        have hK := va_K.moved hvm.symm hK1
        have hD := hD1.weaken (fun _ _ _ h => hFc _ h)
        generalize H1 = H at hP1 hS ⊢
        have hP := hP1
        have e_66 := hm_63.objK e_52 (by decide)
        obtain ⟨g_68, e_67, h_69⟩ := hm_63.obj e_53
        obtain ⟨z_70, z_71, z_72, z_73, rfl⟩ := smX6 h_69
        obtain ⟨f_75, e_74⟩ := hm_63.arrI e_54
        have u_76 := ht_65 _ _ u_46
        obtain ⟨f_78, e_77⟩ := hm_63.arrI e_56
        have u_79 := ht_65 _ _ u_49
        have hsm := hsm.tr (hm_63.mono (by decide))
        have htx := htx.tr ht_65
        obtain ⟨k_80, s_81, e_82, h_83, h_84, h_85, e_86⟩ := hx_64
        refine lv_iconst (v := 1) hx hb dX4_readNumber_89 (by decide) ?_
        exact W.zret (v := 1) hx hb hr rfl (fun t ht hW => ⟨⟨1, (), rfl, Or.inr rfl, ws_61, ty_62, hsm, htx, by rw [ht]; exact hP, va_K.moved hW.alike hK, hD, (⟨s_81, e_82, cc_3, ra_4, rb_5, rc_6, rv_7, r_35, nI k_80, by omega, by omega, by omega, by omega, e_66, e_86, wr_16, wt_17, ⟨k_18, c9_19, t_20, f_75, e_74, u_76, w_24⟩, ⟨k_25, c9_26, t_27, f_78, e_77, u_79, w_31⟩⟩ : RS ρ ws_61 ty_62 rd krd tp ktp cd bb tl)⟩, hS.F ht⟩) hS.2.2 dX4_readNumber_90
      refine lv_aload_n hx hb dX4_readNumber_69 rfl (lv_at hl 0 rfl) ?_
      refine lv_iconst (v := 2) hx hb dX4_readNumber_70 (by decide) ?_
      refine lv_aload_n hx hb dX4_readNumber_71 rfl (lv_at hl 0 rfl) ?_
      refine va_get (D := D) (ci := 4) (v := .ref tp) (C := RX4) (T := TX4) (N := 8) hx hb hts hin4 hown hK hP krd e_52 rfl 0 (by decide) (hts (.fieldLink RX4 12 "HoneyHouse$RuleReader" "tape" "LHoneyHouse$Tape;") (List.mem_of_getElem? (i := 1) rfl)) (fun _ h9 => h9) rfl dX4_readNumber_72 ?_
      refine va_get (D := D) (ci := 6) (v := .int (nI ts_1)) (C := RX6) (T := TX6) (N := 5) hx hb hts hin6 hown hK hP ktp e_53 rfl 2 (by decide) (hts (.fieldLink RX4 73 "HoneyHouse$Tape" "start" "I") (List.mem_of_getElem? (i := 4) rfl)) (fun _ h9 => h9) rfl dX4_readNumber_75 ?_
      have hFc := free_all hD hS hA
      refine va_calli (va_runV (As := [.int 2, .int (nI ts_1)]) (rest := []) ⟨hx, hb, hml, hown, hts⟩ (r_failAt l D ρ ws_50 ty_38 adK adV fo rd krd tp ktp cd bb tl 2 (nI ts_1) H.size (⟨ts_1, te_2, cc_3, ra_4, rb_5, rc_6, rv_7, r_35, ya_9, by omega, by omega, by omega, by omega, e_52, e_53, wr_16, wt_17, ⟨k_18, c9_19, t_20, f_55, e_54, u_46, w_24⟩, ⟨k_25, c9_26, t_27, f_57, e_56, u_49, w_31⟩⟩ : RS ρ ws_50 ty_38 rd krd tp ktp cd bb tl)) (cwV 2 hts gX4_readNumber_X4_failAt rfl rfl rfl (by decide +kernel) ⟨Nat.le_of_ble_eq_true rfl, Nat.le_of_ble_eq_true rfl⟩) ⟨fun a U g mk q => by obtain ⟨q0, q1, qP, qK, qD, qS⟩ := q; exact ⟨q0, q1, qP, va_K.moved (u := U) (U := U.calling g mk a) (Vm.Alike.refl U.vm) qK, qD, SZ.same rfl rfl qS⟩, va_recv hK hP (ci := 4) (q0 := krd) rfl e_52, fun U hU hW => ⟨rfl, by rw [hU], by rw [hU]; exact hP, va_K.moved hW.alike hK, hD.weaken (fun _ _ _ _ => trivial), hsz9.go hS hW hU hFc⟩⟩ rfl rfl hl.1 rfl (lv_room (Nat.le_of_ble_eq_true rfl)) dX4_readNumber_78 ⟨Nat.le_of_ble_eq_true rfl, Nat.le_of_ble_eq_true rfl⟩) hS (fun q _ h => hFc q h) hFc (fun r_87 u t H1 locs ht hvm w_88 hB hz1 hk1 hS => ?_)
      obtain ⟨ws_89, ty_90, hm_91, ht_93, hP1, hK1, hD1, hx_92⟩ := hB
      rw [ht] at hP1
      have hK := va_K.moved hvm.symm hK1
      have hD := hD1.weaken (fun _ _ _ h => hFc _ h)
      generalize H1 = H at hP1 hS ⊢
      have hP := hP1
      obtain ⟨g_95, e_94, h_96⟩ := hm_91.obj e_52
      obtain ⟨z_97, z_98, z_99, z_100, z_101, z_102, rfl⟩ := smX4 h_96
      obtain ⟨g_104, e_103, h_105⟩ := hm_91.obj e_53
      obtain ⟨z_106, z_107, z_108, z_109, rfl⟩ := smX6 h_105
      obtain ⟨f_111, e_110⟩ := hm_91.arrI e_54
      have u_112 := ht_93 _ _ u_46
      obtain ⟨f_114, e_113⟩ := hm_91.arrI e_56
      have u_115 := ht_93 _ _ u_49
      have hsm := hsm.tr (hm_91.mono (by decide))
      have htx := htx.tr ht_93
      obtain ⟨ts_116, te_117, cc_118, ra_119, rb_120, rc_121, rv_122, re_123, ya_124, h1_125, h2_126, h3_127, h4_128, er_129, et_130, wr_131, wt_132, ⟨k_133, c9_134, t_135, f_136, e_137, u_138, w_139⟩, ⟨k_140, c9_141, t_142, f_143, e_144, u_145, w_146⟩⟩ := id hx_92
      subst w_88
      exact W.zret (v := 0) hx hb hr rfl (fun t ht hW => ⟨⟨0, (), rfl, Or.inl rfl, ws_89, ty_90, hsm, htx, by rw [ht]; exact hP, va_K.moved hW.alike hK, hD, (⟨ts_116, te_117, cc_118, ra_119, rb_120, rc_121, rv_122, re_123, ya_124, by omega, by omega, by omega, by omega, er_129, et_130, wr_131, wt_132, ⟨k_133, c9_134, t_135, f_136, e_137, u_138, w_139⟩, ⟨k_140, c9_141, t_142, f_143, e_144, u_145, w_146⟩⟩ : RS ρ ws_89 ty_90 rd krd tp ktp cd bb tl)⟩, hS.F ht⟩) hS.2.2 dX4_readNumber_81
    refine lv_aload_n hx hb dX4_readNumber_35 rfl (lv_at hl 0 rfl) ?_
    refine lv_iconst (v := 1) hx hb dX4_readNumber_36 (by decide) ?_
    refine lv_aload_n hx hb dX4_readNumber_37 rfl (lv_at hl 0 rfl) ?_
    refine va_get (D := D) (ci := 4) (v := .ref tp) (C := RX4) (T := TX4) (N := 8) hx hb hts hin4 hown hK hP krd er_14 rfl 0 (by decide) (hts (.fieldLink RX4 12 "HoneyHouse$RuleReader" "tape" "LHoneyHouse$Tape;") (List.mem_of_getElem? (i := 1) rfl)) (fun _ h9 => h9) rfl dX4_readNumber_38 ?_
    refine va_get (D := D) (ci := 6) (v := .int (nI ts_1)) (C := RX6) (T := TX6) (N := 5) hx hb hts hin6 hown hK hP ktp et_15 rfl 2 (by decide) (hts (.fieldLink RX4 73 "HoneyHouse$Tape" "start" "I") (List.mem_of_getElem? (i := 4) rfl)) (fun _ h9 => h9) rfl dX4_readNumber_41 ?_
    refine lv_iconst (v := 5) hx hb dX4_readNumber_44 (by decide) ?_
    refine lv_iadd hx hb dX4_readNumber_45 ?_
    refine tp_i (y := nI (ts_1 + 5)) (nI_add ts_1 5) ?_
    have hFc := free_all hD hS hA
    refine va_calli (va_runV (As := [.int 1, .int (nI (ts_1 + 5))]) (rest := []) ⟨hx, hb, hml, hown, hts⟩ (r_failAt l D ρ ws tys adK adV fo rd krd tp ktp cd bb tl 1 (nI (ts_1 + 5)) s.heap.size (⟨ts_1, te_2, cc_3, ra_4, rb_5, rc_6, rv_7, re_8, ya_9, by omega, by omega, by omega, by omega, er_14, et_15, wr_16, wt_17, ⟨k_18, c9_19, t_20, f_21, e_22, u_23, w_24⟩, ⟨k_25, c9_26, t_27, f_28, e_29, u_30, w_31⟩⟩ : RS ρ ws tys rd krd tp ktp cd bb tl)) (cwV 2 hts gX4_readNumber_X4_failAt rfl rfl rfl (by decide +kernel) ⟨Nat.le_of_ble_eq_true rfl, Nat.le_of_ble_eq_true rfl⟩) ⟨fun a U g mk q => by obtain ⟨q0, q1, qP, qK, qD, qS⟩ := q; exact ⟨q0, q1, qP, va_K.moved (u := U) (U := U.calling g mk a) (Vm.Alike.refl U.vm) qK, qD, SZ.same rfl rfl qS⟩, va_recv hK hP (ci := 4) (q0 := krd) rfl er_14, fun U hU hW => ⟨rfl, by rw [hU], by rw [hU]; exact hP, va_K.moved hW.alike hK, hD.weaken (fun _ _ _ _ => trivial), hsz9.go hS hW hU hFc⟩⟩ rfl rfl hl.1 rfl (lv_room (Nat.le_of_ble_eq_true rfl)) dX4_readNumber_46 ⟨Nat.le_of_ble_eq_true rfl, Nat.le_of_ble_eq_true rfl⟩) hS (fun q _ h => hFc q h) hFc (fun r_147 u t H1 locs ht hvm w_148 hB hz1 hk1 hS => ?_)
    obtain ⟨ws_149, ty_150, hm_151, ht_153, hP1, hK1, hD1, hx_152⟩ := hB
    rw [ht] at hP1
    have hK := va_K.moved hvm.symm hK1
    have hD := hD1.weaken (fun _ _ _ h => hFc _ h)
    generalize H1 = H at hP1 hS ⊢
    have hP := hP1
    obtain ⟨g_155, e_154, h_156⟩ := hm_151.obj er_14
    obtain ⟨z_157, z_158, z_159, z_160, z_161, z_162, rfl⟩ := smX4 h_156
    obtain ⟨g_164, e_163, h_165⟩ := hm_151.obj et_15
    obtain ⟨z_166, z_167, z_168, z_169, rfl⟩ := smX6 h_165
    obtain ⟨f_171, e_170⟩ := hm_151.arrI e_22
    have u_172 := ht_153 _ _ u_23
    obtain ⟨f_174, e_173⟩ := hm_151.arrI e_29
    have u_175 := ht_153 _ _ u_30
    have hsm := hsm.tr (hm_151.mono (by decide))
    have htx := htx.tr ht_153
    obtain ⟨ts_176, te_177, cc_178, ra_179, rb_180, rc_181, rv_182, re_183, ya_184, h1_185, h2_186, h3_187, h4_188, er_189, et_190, wr_191, wt_192, ⟨k_193, c9_194, t_195, f_196, e_197, u_198, w_199⟩, ⟨k_200, c9_201, t_202, f_203, e_204, u_205, w_206⟩⟩ := id hx_152
    subst w_148
    exact W.zret (v := 0) hx hb hr rfl (fun t ht hW => ⟨⟨0, (), rfl, Or.inl rfl, ws_149, ty_150, hsm, htx, by rw [ht]; exact hP, va_K.moved hW.alike hK, hD, (⟨ts_176, te_177, cc_178, ra_179, rb_180, rc_181, rv_182, re_183, ya_184, by omega, by omega, by omega, by omega, er_189, et_190, wr_191, wt_192, ⟨k_193, c9_194, t_195, f_196, e_197, u_198, w_199⟩, ⟨k_200, c9_201, t_202, f_203, e_204, u_205, w_206⟩⟩ : RS ρ ws_149 ty_150 rd krd tp ktp cd bb tl)⟩, hS.F ht⟩) hS.2.2 dX4_readNumber_49
  refine lv_aload_n hx hb dX4_readNumber_11 rfl (lv_at hl 0 rfl) ?_
  have hFc := free_all hD hS hA
  refine va_calli (va_runV (As := []) (rest := []) ⟨hx, hb, hml, hown, hts⟩ (r_failHere l D ρ ws tys adK adV fo rd krd tp ktp cd bb tl  s.heap.size (⟨ts_1, te_2, cc_3, ra_4, rb_5, rc_6, rv_7, re_8, ya_9, by omega, by omega, by omega, by omega, er_14, et_15, wr_16, wt_17, ⟨k_18, c9_19, t_20, f_21, e_22, u_23, w_24⟩, ⟨k_25, c9_26, t_27, f_28, e_29, u_30, w_31⟩⟩ : RS ρ ws tys rd krd tp ktp cd bb tl)) (cwV 0 hts gX4_readNumber_X4_failHere rfl rfl rfl (by decide +kernel) ⟨Nat.le_of_ble_eq_true rfl, Nat.le_of_ble_eq_true rfl⟩) ⟨fun a U g mk q => by obtain ⟨q0, q1, qP, qK, qD, qS⟩ := q; exact ⟨q0, q1, qP, va_K.moved (u := U) (U := U.calling g mk a) (Vm.Alike.refl U.vm) qK, qD, SZ.same rfl rfl qS⟩, va_recv hK hP (ci := 4) (q0 := krd) rfl er_14, fun U hU hW => ⟨rfl, by rw [hU], by rw [hU]; exact hP, va_K.moved hW.alike hK, hD.weaken (fun _ _ _ _ => trivial), hsz9.go hS hW hU hFc⟩⟩ rfl rfl hl.1 rfl (lv_room (Nat.le_of_ble_eq_true rfl)) dX4_readNumber_12 ⟨Nat.le_of_ble_eq_true rfl, Nat.le_of_ble_eq_true rfl⟩) hS (fun q _ h => hFc q h) hFc (fun r_207 u t H1 locs ht hvm w_208 hB hz1 hk1 hS => ?_)
  obtain ⟨ws_209, ty_210, hm_211, ht_213, hP1, hK1, hD1, hx_212⟩ := hB
  rw [ht] at hP1
  have hK := va_K.moved hvm.symm hK1
  have hD := hD1.weaken (fun _ _ _ h => hFc _ h)
  generalize H1 = H at hP1 hS ⊢
  have hP := hP1
  obtain ⟨g_215, e_214, h_216⟩ := hm_211.obj er_14
  obtain ⟨z_217, z_218, z_219, z_220, z_221, z_222, rfl⟩ := smX4 h_216
  obtain ⟨g_224, e_223, h_225⟩ := hm_211.obj et_15
  obtain ⟨z_226, z_227, z_228, z_229, rfl⟩ := smX6 h_225
  obtain ⟨f_231, e_230⟩ := hm_211.arrI e_22
  have u_232 := ht_213 _ _ u_23
  obtain ⟨f_234, e_233⟩ := hm_211.arrI e_29
  have u_235 := ht_213 _ _ u_30
  have hsm := hsm.tr (hm_211.mono (by decide))
  have htx := htx.tr ht_213
  obtain ⟨ts_236, te_237, cc_238, ra_239, rb_240, rc_241, rv_242, re_243, ya_244, h1_245, h2_246, h3_247, h4_248, er_249, et_250, wr_251, wt_252, ⟨k_253, c9_254, t_255, f_256, e_257, u_258, w_259⟩, ⟨k_260, c9_261, t_262, f_263, e_264, u_265, w_266⟩⟩ := id hx_212
  subst w_208
  exact W.zret (v := 0) hx hb hr rfl (fun t ht hW => ⟨⟨0, (), rfl, Or.inl rfl, ws_209, ty_210, hsm, htx, by rw [ht]; exact hP, va_K.moved hW.alike hK, hD, (⟨ts_236, te_237, cc_238, ra_239, rb_240, rc_241, rv_242, re_243, ya_244, by omega, by omega, by omega, by omega, er_249, et_250, wr_251, wt_252, ⟨k_253, c9_254, t_255, f_256, e_257, u_258, w_259⟩, ⟨k_260, c9_261, t_262, f_263, e_264, u_265, w_266⟩⟩ : RS ρ ws_209 ty_210 rd krd tp ktp cd bb tl)⟩, hS.F ht⟩) hS.2.2 dX4_readNumber_15
set_option maxHeartbeats 4000000 in
set_option maxRecDepth 100000 in
theorem r_readName (l : Launch) (D : va_G) (ρ : Nat → Nat) (ws : va_W) (tys : List (ClassId × FieldType)) (adK adV : Nat → Nat) (fo : Option Nat) (rd krd tp ktp cd bb tl : Nat)  (sz : Nat) (R0 : RS ρ ws tys rd krd tp ktp cd bb tl)  : Met l yX4_readName wsX4_readName ({ frames := 7, cells := 0, slots := 0, locals := 147 }) (va_Pc [.ref rd] (fun U => U.heap.size = sz ∧ va_P D vwCl ws U.heap ∧ va_K D vwCl tys U ∧ va_D (fun _ => True) ws ∧ SZ adK adV fo (va_A ws sz) U U.heap)) (va_Qi (fun (r : Int32) (_ : Unit) => r = 0 ∨ r = 1) (fun (_ : Unit) (t : State) => ∃ (ws' : va_W) (tys' : List (ClassId × FieldType)), sm ρ [4, 6] ws ws' ∧ tyx tys tys' ∧ va_P D vwCl ws' t.heap ∧ va_K D vwCl tys' t ∧ va_D (va_A ws sz) ws' ∧ (RS ρ ws' tys' rd krd tp ktp cd bb tl)) (va_A ws sz)) 0 0 (va_A ws sz) := by
  refine Met.ofW (cc := cX4_readName) (maxL := 1) (ret := (some .boolean)) (by decide) rfl ?_
  intro p e s m args below meth c s₁ B hml hv
  obtain ⟨rfl, hsz, hP, hK, hD0, hsz9⟩ := hv
  have hx := B.exec
  have hb := B.bytes
  have hr := B.returns
  have hts := atoms_spec (ws := wsX4_readName) B.pre
  have hown : s.vm.findClass RX4 = some m.cls := findClass_of_methodNamed B.named
  have hlocks := B.notSynchronized
  subst hsz
  have hD := hD0.self (sz := s.heap.size)
  generalize hAe : va_A ws s.heap.size = A at hD hsz9 ⊢
  have hA : ∀ q : Nat, s.heap.size ≤ q → A q := fun q h => by rw [← hAe]; exact Or.inr h
  have hS : va_S A s.heap s.heap [] := va_S.rf
  have hsm : sm ρ [4, 6] ws ws := sm.rf ws
  have htx : tyx tys tys := tyx.rf tys
  have hin4 : ∀ w ∈ u_ws RX4 TX4 8, w ∈ wsX4_readName := (fun _ h9 => List.mem_cons_of_mem _ (List.mem_append_left _ ((List.mem_append_right _ h9))))
  have hin6 : ∀ w ∈ u_ws RX6 TX6 5, w ∈ wsX4_readName := (fun _ h9 => List.mem_cons_of_mem _ ((List.mem_append_right _ h9)))
  have hl := lv_entry ([.ref rd]) (n := 1) (Nat.le_of_ble_eq_true rfl)
  rw [lg_entry_eq]
  generalize (lg_sl ([.ref rd]) ++ List.replicate (1 - (lg_sl ([.ref rd])).length) Slot.unset).toArray = ls at hl ⊢
  have hl : lv_has ls 1 [(0, .ref rd)] := hl
  obtain ⟨ts_1, te_2, cc_3, ra_4, rb_5, rc_6, rv_7, re_8, ya_9, h1_10, h2_11, h3_12, h4_13, er_14, et_15, wr_16, wt_17, ⟨k_18, c9_19, t_20, f_21, e_22, u_23, w_24⟩, ⟨k_25, c9_26, t_27, f_28, e_29, u_30, w_31⟩⟩ := id R0
  refine lv_aload_n hx hb dX4_readName_0 rfl (lv_at hl 0 rfl) ?_
  refine va_get (D := D) (ci := 4) (v := .ref tp) (C := RX4) (T := TX4) (N := 8) hx hb hts hin4 hown hK hP krd er_14 rfl 0 (by decide) (hts (.fieldLink RX4 12 "HoneyHouse$RuleReader" "tape" "LHoneyHouse$Tape;") (List.mem_of_getElem? (i := 1) rfl)) (fun _ h9 => h9) rfl dX4_readName_1 ?_
  refine va_get (D := D) (ci := 6) (v := .int ya_9) (C := RX6) (T := TX6) (N := 5) hx hb hts hin6 hown hK hP ktp et_15 rfl 1 (by decide) (hts (.fieldLink RX4 61 "HoneyHouse$Tape" "kind" "I") (List.mem_of_getElem? (i := 2) rfl)) (fun _ h9 => h9) rfl dX4_readName_4 ?_
  refine lv_iconst (v := 1) hx hb dX4_readName_7 (by decide) ?_
  refine lv_icmp_ne (tgt := 18) hx hb dX4_readName_8 (by decide) (fun c_32 => ?_) (fun c_32 => ?_)
  · refine lv_aload_n hx hb dX4_readName_18 rfl (lv_at hl 0 rfl) ?_
    have hFc := free_all hD hS hA
    refine va_calli (va_runV (As := []) (rest := []) ⟨hx, hb, hml, hown, hts⟩ (r_failHere l D ρ ws tys adK adV fo rd krd tp ktp cd bb tl  s.heap.size (⟨ts_1, te_2, cc_3, ra_4, rb_5, rc_6, rv_7, re_8, ya_9, by omega, by omega, by omega, by omega, er_14, et_15, wr_16, wt_17, ⟨k_18, c9_19, t_20, f_21, e_22, u_23, w_24⟩, ⟨k_25, c9_26, t_27, f_28, e_29, u_30, w_31⟩⟩ : RS ρ ws tys rd krd tp ktp cd bb tl)) (cwV 0 hts gX4_readName_X4_failHere rfl rfl rfl (by decide +kernel) ⟨Nat.le_of_ble_eq_true rfl, Nat.le_of_ble_eq_true rfl⟩) ⟨fun a U g mk q => by obtain ⟨q0, q1, qP, qK, qD, qS⟩ := q; exact ⟨q0, q1, qP, va_K.moved (u := U) (U := U.calling g mk a) (Vm.Alike.refl U.vm) qK, qD, SZ.same rfl rfl qS⟩, va_recv hK hP (ci := 4) (q0 := krd) rfl er_14, fun U hU hW => ⟨rfl, by rw [hU], by rw [hU]; exact hP, va_K.moved hW.alike hK, hD.weaken (fun _ _ _ _ => trivial), hsz9.go hS hW hU hFc⟩⟩ rfl rfl hl.1 rfl (lv_room (Nat.le_of_ble_eq_true rfl)) dX4_readName_19 ⟨Nat.le_of_ble_eq_true rfl, Nat.le_of_ble_eq_true rfl⟩) hS (fun q _ h => hFc q h) hFc (fun r_33 u t H1 locs ht hvm w_34 hB hz1 hk1 hS => ?_)
    obtain ⟨ws_35, ty_36, hm_37, ht_39, hP1, hK1, hD1, hx_38⟩ := hB
    rw [ht] at hP1
    have hK := va_K.moved hvm.symm hK1
    have hD := hD1.weaken (fun _ _ _ h => hFc _ h)
    generalize H1 = H at hP1 hS ⊢
    have hP := hP1
    obtain ⟨g_41, e_40, h_42⟩ := hm_37.obj er_14
    obtain ⟨z_43, z_44, z_45, z_46, z_47, z_48, rfl⟩ := smX4 h_42
    obtain ⟨g_50, e_49, h_51⟩ := hm_37.obj et_15
    obtain ⟨z_52, z_53, z_54, z_55, rfl⟩ := smX6 h_51
    obtain ⟨f_57, e_56⟩ := hm_37.arrI e_22
    have u_58 := ht_39 _ _ u_23
    obtain ⟨f_60, e_59⟩ := hm_37.arrI e_29
    have u_61 := ht_39 _ _ u_30
    have hsm := hsm.tr (hm_37.mono (by decide))
    have htx := htx.tr ht_39
    obtain ⟨ts_62, te_63, cc_64, ra_65, rb_66, rc_67, rv_68, re_69, ya_70, h1_71, h2_72, h3_73, h4_74, er_75, et_76, wr_77, wt_78, ⟨k_79, c9_80, t_81, f_82, e_83, u_84, w_85⟩, ⟨k_86, c9_87, t_88, f_89, e_90, u_91, w_92⟩⟩ := id hx_38
    subst w_34
    exact W.zret (v := 0) hx hb hr rfl (fun t ht hW => ⟨⟨0, (), rfl, Or.inl rfl, ws_35, ty_36, hsm, htx, by rw [ht]; exact hP, va_K.moved hW.alike hK, hD, (⟨ts_62, te_63, cc_64, ra_65, rb_66, rc_67, rv_68, re_69, ya_70, by omega, by omega, by omega, by omega, er_75, et_76, wr_77, wt_78, ⟨k_79, c9_80, t_81, f_82, e_83, u_84, w_85⟩, ⟨k_86, c9_87, t_88, f_89, e_90, u_91, w_92⟩⟩ : RS ρ ws_35 ty_36 rd krd tp ktp cd bb tl)⟩, hS.F ht⟩) hS.2.2 dX4_readName_22
  refine lv_aload_n hx hb dX4_readName_11 rfl (lv_at hl 0 rfl) ?_
  have hFc := free_all hD hS hA
  refine va_calli (va_runV (As := []) (rest := []) ⟨hx, hb, hml, hown, hts⟩ (r_isKeptWord l D ρ ws tys adK adV fo rd krd tp ktp cd bb tl  s.heap.size (⟨ts_1, te_2, cc_3, ra_4, rb_5, rc_6, rv_7, re_8, ya_9, by omega, by omega, by omega, by omega, er_14, et_15, wr_16, wt_17, ⟨k_18, c9_19, t_20, f_21, e_22, u_23, w_24⟩, ⟨k_25, c9_26, t_27, f_28, e_29, u_30, w_31⟩⟩ : RS ρ ws tys rd krd tp ktp cd bb tl)) (cwV 0 hts gX4_readName_X4_isKeptWord rfl rfl rfl (by decide +kernel) ⟨Nat.le_of_ble_eq_true rfl, Nat.le_of_ble_eq_true rfl⟩) ⟨fun a U g mk q => by obtain ⟨q0, q1, qP, qK, qD, qS⟩ := q; exact ⟨q0, q1, qP, va_K.moved (u := U) (U := U.calling g mk a) (Vm.Alike.refl U.vm) qK, qD, SZ.same rfl rfl qS⟩, va_recv hK hP (ci := 4) (q0 := krd) rfl er_14, fun U hU hW => ⟨rfl, by rw [hU], by rw [hU]; exact hP, va_K.moved hW.alike hK, hD.weaken (fun _ _ _ _ => trivial), hsz9.go hS hW hU hFc⟩⟩ rfl rfl hl.1 rfl (lv_room (Nat.le_of_ble_eq_true rfl)) dX4_readName_12 ⟨Nat.le_of_ble_eq_true rfl, Nat.le_of_ble_eq_true rfl⟩) hS (fun q _ h => hFc q h) hFc (fun r_93 u t H1 locs ht hvm w_94 hB hz1 hk1 hS => ?_)
  obtain ⟨ws_95, ty_96, hm_97, ht_99, hP1, hK1, hD1, hx_98⟩ := hB
  rw [ht] at hP1
  have hK := va_K.moved hvm.symm hK1
  have hD := hD1.weaken (fun _ _ _ h => hFc _ h)
  generalize H1 = H at hP1 hS ⊢
  have hP := hP1
  have e_100 := hm_97.objK er_14 (by decide)
  have e_101 := hm_97.objK et_15 (by decide)
  obtain ⟨f_103, e_102⟩ := hm_97.arrI e_22
  have u_104 := ht_99 _ _ u_23
  obtain ⟨f_106, e_105⟩ := hm_97.arrI e_29
  have u_107 := ht_99 _ _ u_30
  have hsm := hsm.tr (hm_97.mono (by decide))
  have htx := htx.tr ht_99
  rcases w_94 with rfl | rfl
  · refine lv_if_eq (tgt := 23) hx hb dX4_readName_15 (by decide) (fun c_108 => ?_) (fun c_108 => absurd (by decide) c_108)
    refine lv_aload_n hx hb dX4_readName_23 rfl (lv_at hl 0 rfl) ?_
    refine va_get (D := D) (ci := 4) (v := .ref tp) (C := RX4) (T := TX4) (N := 8) hx hb hts hin4 hown hK hP krd e_100 rfl 0 (by decide) (hts (.fieldLink RX4 12 "HoneyHouse$RuleReader" "tape" "LHoneyHouse$Tape;") (List.mem_of_getElem? (i := 1) rfl)) (fun _ h9 => h9) rfl dX4_readName_24 ?_
    refine va_get (D := D) (ci := 6) (v := .int (nI te_2)) (C := RX6) (T := TX6) (N := 5) hx hb hts hin6 hown hK hP ktp e_101 rfl 3 (by decide) (hts (.fieldLink RX4 83 "HoneyHouse$Tape" "end" "I") (List.mem_of_getElem? (i := 3) rfl)) (fun _ h9 => h9) rfl dX4_readName_27 ?_
    refine lv_aload_n hx hb dX4_readName_30 rfl (lv_at hl 0 rfl) ?_
    refine va_get (D := D) (ci := 4) (v := .ref tp) (C := RX4) (T := TX4) (N := 8) hx hb hts hin4 hown hK hP krd e_100 rfl 0 (by decide) (hts (.fieldLink RX4 12 "HoneyHouse$RuleReader" "tape" "LHoneyHouse$Tape;") (List.mem_of_getElem? (i := 1) rfl)) (fun _ h9 => h9) rfl dX4_readName_31 ?_
    refine va_get (D := D) (ci := 6) (v := .int (nI ts_1)) (C := RX6) (T := TX6) (N := 5) hx hb hts hin6 hown hK hP ktp e_101 rfl 2 (by decide) (hts (.fieldLink RX4 73 "HoneyHouse$Tape" "start" "I") (List.mem_of_getElem? (i := 4) rfl)) (fun _ h9 => h9) rfl dX4_readName_34 ?_
    refine lv_isub hx hb dX4_readName_37 ?_
    refine lv_topi (fun z_109 _ => ?_)
    refine lv_bipush (v := 12) hx hb dX4_readName_38 (by decide) ?_
    refine lv_icmp_le (tgt := 59) hx hb dX4_readName_40 (by decide) (fun c_110 => ?_) (fun c_110 => ?_)
    · refine lv_aload_n hx hb dX4_readName_59 rfl (lv_at hl 0 rfl) ?_
      refine lv_aload_n hx hb dX4_readName_60 rfl (lv_at hl 0 rfl) ?_
      refine va_get (D := D) (ci := 4) (v := .ref tp) (C := RX4) (T := TX4) (N := 8) hx hb hts hin4 hown hK hP krd e_100 rfl 0 (by decide) (hts (.fieldLink RX4 12 "HoneyHouse$RuleReader" "tape" "LHoneyHouse$Tape;") (List.mem_of_getElem? (i := 1) rfl)) (fun _ h9 => h9) rfl dX4_readName_61 ?_
      have hFc := free_all hD hS hA
      refine va_calll (va_runV (As := []) (rest := [.ref rd]) ⟨hx, hb, hml, hown, hts⟩ (a_wordKey l D ρ ws_95 ty_96 tp ktp tl ts_1 te_2 ya_9 bb k_25 c9_26 t_27 f_106 H.size (by omega) (by omega) e_101 e_105 u_107) (cwV 0 hts gX4_readName_X6_wordKey rfl rfl rfl (by decide +kernel) ⟨Nat.le_of_ble_eq_true rfl, Nat.le_of_ble_eq_true rfl⟩) ⟨fun a U g mk q => by obtain ⟨q0, q1, qP, qK, qD⟩ := q; exact ⟨q0, q1, qP, va_K.moved (u := U) (U := U.calling g mk a) (Vm.Alike.refl U.vm) qK, qD⟩, va_recv hK hP (ci := 6) (q0 := ktp) rfl e_101, fun U hU hW => ⟨rfl, by rw [hU], by rw [hU]; exact hP, va_K.moved hW.alike hK, hD.weaken (fun _ _ _ _ => trivial)⟩⟩ rfl rfl hl.1 rfl (lv_room (Nat.le_of_ble_eq_true rfl)) dX4_readName_64 ⟨Nat.le_of_ble_eq_true rfl, Nat.le_of_ble_eq_true rfl⟩) hS (fun q _ h => hFc q h) hFc (fun r_111 u t H1 locs ht hvm w_112 hB hz1 hk1 hS => ?_)
      obtain ⟨ws_113, ty_114, hm_115, ht_117, hP1, hK1, hD1, hx_116⟩ := hB
      rw [ht] at hP1
      have hK := va_K.moved hvm.symm hK1
      have hD := hD1.weaken (fun _ _ _ h => hFc _ h)
      generalize H1 = H at hP1 hS ⊢
      have hP := hP1
      have e_118 := hm_115.objK e_100 (by decide)
      have e_119 := hm_115.objK e_101 (by decide)
      obtain ⟨f_121, e_120⟩ := hm_115.arrI e_102
      have u_122 := ht_117 _ _ u_104
      obtain ⟨f_124, e_123⟩ := hm_115.arrI e_105
      have u_125 := ht_117 _ _ u_107
      have hsm := hsm.tr (hm_115.mono (by decide))
      have htx := htx.tr ht_117
      refine va_put (D := D) (ci := 4) (v := .long r_111) (ty := .long) (C := RX4) (T := TX4) (N := 8) hx hb hts hin4 tyX4 tyX4_ok nmX4 hown hK hP hD hS krd e_118 rfl 1 (by decide) (hts (.fieldLink RX4 90 "HoneyHouse$RuleReader" "nameKey" "J") (List.mem_of_getElem? (i := 5) rfl)) (fun _ h9 => h9) rfl (tyX4_ok 1 (by decide)) rfl rfl (Nat.le_of_ble_eq_true rfl) dX4_readName_67 (fun H locs hP hD hS => ?_)
      have hP : va_P D vwCl (ws_113.set krd (rd, .inr (4, [.ref tp, .long r_111, .int rb_5, .int rc_6, .int rv_7, .ref cd, .int (nI cc_3), .int re_8]))) H := hP
      have hD : va_D A (ws_113.set krd (rd, .inr (4, [.ref tp, .long r_111, .int rb_5, .int rc_6, .int rv_7, .ref cd, .int (nI cc_3), .int re_8]))) := hD
      have hm_127 : sm ρ [4] ws_113 (ws_113.set krd (rd, .inr (4, [.ref tp, .long r_111, .int rb_5, .int rc_6, .int rv_7, .ref cd, .int (nI cc_3), .int re_8]))) := sm.flds e_118 (smF.c (smV.rf _) (smF.c (smV.l _ _) (smF.c (smV.rf _) (smF.c (smV.rf _) (smF.c (smV.rf _) (smF.c (smV.rf _) (smF.c (smV.rf _) (smF.c (smV.rf _) (rfl))))))))) (List.mem_singleton.mpr rfl) wr_16
      have e_128 : (ws_113.set krd (rd, .inr (4, [.ref tp, .long r_111, .int rb_5, .int rc_6, .int rv_7, .ref cd, .int (nI cc_3), .int re_8])))[krd]? = some (rd, .inr (4, [.ref tp, .long r_111, .int rb_5, .int rc_6, .int rv_7, .ref cd, .int (nI cc_3), .int re_8])) := wset_self e_118
      generalize ws_113.set krd (rd, .inr (4, [.ref tp, .long r_111, .int rb_5, .int rc_6, .int rv_7, .ref cd, .int (nI cc_3), .int re_8])) = ws_126 at hP hD hm_127 e_128
      have e_129 := hm_127.objK e_119 (by decide)
      obtain ⟨f_131, e_130⟩ := hm_127.arrI e_120
      obtain ⟨f_133, e_132⟩ := hm_127.arrI e_123
      have hsm := hsm.tr (hm_127.mono (by decide))
      refine lv_aload_n hx hb dX4_readName_70 rfl (lv_at hl 0 rfl) ?_
      refine va_get (D := D) (ci := 4) (v := .ref tp) (C := RX4) (T := TX4) (N := 8) hx hb hts hin4 hown hK hP krd e_128 rfl 0 (by decide) (hts (.fieldLink RX4 12 "HoneyHouse$RuleReader" "tape" "LHoneyHouse$Tape;") (List.mem_of_getElem? (i := 1) rfl)) (fun _ h9 => h9) rfl dX4_readName_71 ?_
      have hFc := free_all hD hS hA
      refine va_callv (va_runV (As := []) (rest := []) ⟨hx, hb, hml, hown, hts⟩ (a_advance l D ρ ws_126 ty_114 tp ktp tl te_2 ya_9 (nI ts_1) bb k_25 c9_26 t_27 f_133 H.size (by omega) (by omega) e_129 e_132 u_125 wt_17) (cwV 0 hts gX4_readName_X6_advance rfl rfl rfl (by decide +kernel) ⟨Nat.le_of_ble_eq_true rfl, Nat.le_of_ble_eq_true rfl⟩) ⟨fun a U g mk q => by obtain ⟨q0, q1, qP, qK, qD⟩ := q; exact ⟨q0, q1, qP, va_K.moved (u := U) (U := U.calling g mk a) (Vm.Alike.refl U.vm) qK, qD⟩, va_recv hK hP (ci := 6) (q0 := ktp) rfl e_129, fun U hU hW => ⟨rfl, by rw [hU], by rw [hU]; exact hP, va_K.moved hW.alike hK, hD.weaken (fun _ _ _ _ => trivial)⟩⟩ rfl rfl hl.1 rfl (lv_room (Nat.le_of_ble_eq_true rfl)) dX4_readName_74 ⟨Nat.le_of_ble_eq_true rfl, Nat.le_of_ble_eq_true rfl⟩) hS (fun q _ h => hFc q h) hFc (fun u t H1 locs ht hvm w_135 hB hz1 hk1 hS => ?_)
      obtain ⟨ws_136, ty_137, hm_138, ht_140, hP1, hK1, hD1, hx_139⟩ := hB
      rw [ht] at hP1
      have hK := va_K.moved hvm.symm hK1
      have hD := hD1.weaken (fun _ _ _ h => hFc _ h)
      generalize H1 = H at hP1 hS ⊢
      have hP := hP1
      have e_141 := hm_138.objK e_128 (by decide)
      obtain ⟨g_143, e_142, h_144⟩ := hm_138.obj e_129
      obtain ⟨z_145, z_146, z_147, z_148, rfl⟩ := smX6 h_144
      obtain ⟨f_150, e_149⟩ := hm_138.arrI e_130
      have u_151 := ht_140 _ _ u_122
      obtain ⟨f_153, e_152⟩ := hm_138.arrI e_132
      have u_154 := ht_140 _ _ u_125
      have hsm := hsm.tr (hm_138.mono (by decide))
      have htx := htx.tr ht_140
      obtain ⟨k_155, s_156, e_157, h_158, h_159, h_160, e_161⟩ := hx_139
      refine lv_iconst (v := 1) hx hb dX4_readName_77 (by decide) ?_
      exact W.zret (v := 1) hx hb hr rfl (fun t ht hW => ⟨⟨1, (), rfl, Or.inr rfl, ws_136, ty_137, hsm, htx, by rw [ht]; exact hP, va_K.moved hW.alike hK, hD, (⟨s_156, e_157, cc_3, r_111, rb_5, rc_6, rv_7, re_8, nI k_155, by omega, by omega, by omega, by omega, e_141, e_161, wr_16, wt_17, ⟨k_18, c9_19, t_20, f_150, e_149, u_151, w_24⟩, ⟨k_25, c9_26, t_27, f_153, e_152, u_154, w_31⟩⟩ : RS ρ ws_136 ty_137 rd krd tp ktp cd bb tl)⟩, hS.F ht⟩) hS.2.2 dX4_readName_78
    refine lv_aload_n hx hb dX4_readName_43 rfl (lv_at hl 0 rfl) ?_
    refine lv_iconst (v := 1) hx hb dX4_readName_44 (by decide) ?_
    refine lv_aload_n hx hb dX4_readName_45 rfl (lv_at hl 0 rfl) ?_
    refine va_get (D := D) (ci := 4) (v := .ref tp) (C := RX4) (T := TX4) (N := 8) hx hb hts hin4 hown hK hP krd e_100 rfl 0 (by decide) (hts (.fieldLink RX4 12 "HoneyHouse$RuleReader" "tape" "LHoneyHouse$Tape;") (List.mem_of_getElem? (i := 1) rfl)) (fun _ h9 => h9) rfl dX4_readName_46 ?_
    refine va_get (D := D) (ci := 6) (v := .int (nI ts_1)) (C := RX6) (T := TX6) (N := 5) hx hb hts hin6 hown hK hP ktp e_101 rfl 2 (by decide) (hts (.fieldLink RX4 73 "HoneyHouse$Tape" "start" "I") (List.mem_of_getElem? (i := 4) rfl)) (fun _ h9 => h9) rfl dX4_readName_49 ?_
    refine lv_bipush (v := 12) hx hb dX4_readName_52 (by decide) ?_
    refine lv_iadd hx hb dX4_readName_54 ?_
    refine tp_i (y := nI (ts_1 + 12)) (nI_add ts_1 12) ?_
    have hFc := free_all hD hS hA
    refine va_calli (va_runV (As := [.int 1, .int (nI (ts_1 + 12))]) (rest := []) ⟨hx, hb, hml, hown, hts⟩ (r_failAt l D ρ ws_95 ty_96 adK adV fo rd krd tp ktp cd bb tl 1 (nI (ts_1 + 12)) H.size (⟨ts_1, te_2, cc_3, ra_4, rb_5, rc_6, rv_7, re_8, ya_9, by omega, by omega, by omega, by omega, e_100, e_101, wr_16, wt_17, ⟨k_18, c9_19, t_20, f_103, e_102, u_104, w_24⟩, ⟨k_25, c9_26, t_27, f_106, e_105, u_107, w_31⟩⟩ : RS ρ ws_95 ty_96 rd krd tp ktp cd bb tl)) (cwV 2 hts gX4_readName_X4_failAt rfl rfl rfl (by decide +kernel) ⟨Nat.le_of_ble_eq_true rfl, Nat.le_of_ble_eq_true rfl⟩) ⟨fun a U g mk q => by obtain ⟨q0, q1, qP, qK, qD, qS⟩ := q; exact ⟨q0, q1, qP, va_K.moved (u := U) (U := U.calling g mk a) (Vm.Alike.refl U.vm) qK, qD, SZ.same rfl rfl qS⟩, va_recv hK hP (ci := 4) (q0 := krd) rfl e_100, fun U hU hW => ⟨rfl, by rw [hU], by rw [hU]; exact hP, va_K.moved hW.alike hK, hD.weaken (fun _ _ _ _ => trivial), hsz9.go hS hW hU hFc⟩⟩ rfl rfl hl.1 rfl (lv_room (Nat.le_of_ble_eq_true rfl)) dX4_readName_55 ⟨Nat.le_of_ble_eq_true rfl, Nat.le_of_ble_eq_true rfl⟩) hS (fun q _ h => hFc q h) hFc (fun r_162 u t H1 locs ht hvm w_163 hB hz1 hk1 hS => ?_)
    obtain ⟨ws_164, ty_165, hm_166, ht_168, hP1, hK1, hD1, hx_167⟩ := hB
    rw [ht] at hP1
    have hK := va_K.moved hvm.symm hK1
    have hD := hD1.weaken (fun _ _ _ h => hFc _ h)
    generalize H1 = H at hP1 hS ⊢
    have hP := hP1
    obtain ⟨g_170, e_169, h_171⟩ := hm_166.obj e_100
    obtain ⟨z_172, z_173, z_174, z_175, z_176, z_177, rfl⟩ := smX4 h_171
    obtain ⟨g_179, e_178, h_180⟩ := hm_166.obj e_101
    obtain ⟨z_181, z_182, z_183, z_184, rfl⟩ := smX6 h_180
    obtain ⟨f_186, e_185⟩ := hm_166.arrI e_102
    have u_187 := ht_168 _ _ u_104
    obtain ⟨f_189, e_188⟩ := hm_166.arrI e_105
    have u_190 := ht_168 _ _ u_107
    have hsm := hsm.tr (hm_166.mono (by decide))
    have htx := htx.tr ht_168
    obtain ⟨ts_191, te_192, cc_193, ra_194, rb_195, rc_196, rv_197, re_198, ya_199, h1_200, h2_201, h3_202, h4_203, er_204, et_205, wr_206, wt_207, ⟨k_208, c9_209, t_210, f_211, e_212, u_213, w_214⟩, ⟨k_215, c9_216, t_217, f_218, e_219, u_220, w_221⟩⟩ := id hx_167
    subst w_163
    exact W.zret (v := 0) hx hb hr rfl (fun t ht hW => ⟨⟨0, (), rfl, Or.inl rfl, ws_164, ty_165, hsm, htx, by rw [ht]; exact hP, va_K.moved hW.alike hK, hD, (⟨ts_191, te_192, cc_193, ra_194, rb_195, rc_196, rv_197, re_198, ya_199, by omega, by omega, by omega, by omega, er_204, et_205, wr_206, wt_207, ⟨k_208, c9_209, t_210, f_211, e_212, u_213, w_214⟩, ⟨k_215, c9_216, t_217, f_218, e_219, u_220, w_221⟩⟩ : RS ρ ws_164 ty_165 rd krd tp ktp cd bb tl)⟩, hS.F ht⟩) hS.2.2 dX4_readName_58
  refine lv_if_eq (tgt := 23) hx hb dX4_readName_15 (by decide) (fun c_222 => absurd c_222 (by decide)) (fun c_222 => ?_)
  refine lv_aload_n hx hb dX4_readName_18 rfl (lv_at hl 0 rfl) ?_
  have hFc := free_all hD hS hA
  refine va_calli (va_runV (As := []) (rest := []) ⟨hx, hb, hml, hown, hts⟩ (r_failHere l D ρ ws_95 ty_96 adK adV fo rd krd tp ktp cd bb tl  H.size (⟨ts_1, te_2, cc_3, ra_4, rb_5, rc_6, rv_7, re_8, ya_9, by omega, by omega, by omega, by omega, e_100, e_101, wr_16, wt_17, ⟨k_18, c9_19, t_20, f_103, e_102, u_104, w_24⟩, ⟨k_25, c9_26, t_27, f_106, e_105, u_107, w_31⟩⟩ : RS ρ ws_95 ty_96 rd krd tp ktp cd bb tl)) (cwV 0 hts gX4_readName_X4_failHere rfl rfl rfl (by decide +kernel) ⟨Nat.le_of_ble_eq_true rfl, Nat.le_of_ble_eq_true rfl⟩) ⟨fun a U g mk q => by obtain ⟨q0, q1, qP, qK, qD, qS⟩ := q; exact ⟨q0, q1, qP, va_K.moved (u := U) (U := U.calling g mk a) (Vm.Alike.refl U.vm) qK, qD, SZ.same rfl rfl qS⟩, va_recv hK hP (ci := 4) (q0 := krd) rfl e_100, fun U hU hW => ⟨rfl, by rw [hU], by rw [hU]; exact hP, va_K.moved hW.alike hK, hD.weaken (fun _ _ _ _ => trivial), hsz9.go hS hW hU hFc⟩⟩ rfl rfl hl.1 rfl (lv_room (Nat.le_of_ble_eq_true rfl)) dX4_readName_19 ⟨Nat.le_of_ble_eq_true rfl, Nat.le_of_ble_eq_true rfl⟩) hS (fun q _ h => hFc q h) hFc (fun r_223 u t H1 locs ht hvm w_224 hB hz1 hk1 hS => ?_)
  obtain ⟨ws_225, ty_226, hm_227, ht_229, hP1, hK1, hD1, hx_228⟩ := hB
  rw [ht] at hP1
  have hK := va_K.moved hvm.symm hK1
  have hD := hD1.weaken (fun _ _ _ h => hFc _ h)
  generalize H1 = H at hP1 hS ⊢
  have hP := hP1
  obtain ⟨g_231, e_230, h_232⟩ := hm_227.obj e_100
  obtain ⟨z_233, z_234, z_235, z_236, z_237, z_238, rfl⟩ := smX4 h_232
  obtain ⟨g_240, e_239, h_241⟩ := hm_227.obj e_101
  obtain ⟨z_242, z_243, z_244, z_245, rfl⟩ := smX6 h_241
  obtain ⟨f_247, e_246⟩ := hm_227.arrI e_102
  have u_248 := ht_229 _ _ u_104
  obtain ⟨f_250, e_249⟩ := hm_227.arrI e_105
  have u_251 := ht_229 _ _ u_107
  have hsm := hsm.tr (hm_227.mono (by decide))
  have htx := htx.tr ht_229
  obtain ⟨ts_252, te_253, cc_254, ra_255, rb_256, rc_257, rv_258, re_259, ya_260, h1_261, h2_262, h3_263, h4_264, er_265, et_266, wr_267, wt_268, ⟨k_269, c9_270, t_271, f_272, e_273, u_274, w_275⟩, ⟨k_276, c9_277, t_278, f_279, e_280, u_281, w_282⟩⟩ := id hx_228
  subst w_224
  exact W.zret (v := 0) hx hb hr rfl (fun t ht hW => ⟨⟨0, (), rfl, Or.inl rfl, ws_225, ty_226, hsm, htx, by rw [ht]; exact hP, va_K.moved hW.alike hK, hD, (⟨ts_252, te_253, cc_254, ra_255, rb_256, rc_257, rv_258, re_259, ya_260, by omega, by omega, by omega, by omega, er_265, et_266, wr_267, wt_268, ⟨k_269, c9_270, t_271, f_272, e_273, u_274, w_275⟩, ⟨k_276, c9_277, t_278, f_279, e_280, u_281, w_282⟩⟩ : RS ρ ws_225 ty_226 rd krd tp ktp cd bb tl)⟩, hS.F ht⟩) hS.2.2 dX4_readName_22
set_option maxHeartbeats 4000000 in
set_option maxRecDepth 100000 in
theorem r_addCode (l : Launch) (D : va_G) (ρ : Nat → Nat) (ws : va_W) (tys : List (ClassId × FieldType)) (adK adV : Nat → Nat) (fo : Option Nat) (rd krd tp ktp cd bb tl : Nat) (a1 : Int32) (sz : Nat) (R0 : RS ρ ws tys rd krd tp ktp cd bb tl)  : Met l yX4_addCode wsX4_addCode ({ frames := 0, cells := 0, slots := 0, locals := 0 }) (va_Pc [.ref rd, .int a1] (fun U => U.heap.size = sz ∧ va_P D vwCl ws U.heap ∧ va_K D vwCl tys U ∧ va_D (fun _ => True) ws ∧ SZ adK adV fo (va_A ws sz) U U.heap)) (va_Qv (fun _ : Unit => True) (fun (_ : Unit) (t : State) => ∃ (ws' : va_W) (tys' : List (ClassId × FieldType)), sm ρ [4, 6] ws ws' ∧ tyx tys tys' ∧ va_P D vwCl ws' t.heap ∧ va_K D vwCl tys' t ∧ va_D (va_A ws sz) ws' ∧ (RS ρ ws' tys' rd krd tp ktp cd bb tl)) (va_A ws sz)) 0 0 (va_A ws sz) := by
  refine Met.ofW (cc := cX4_addCode) (maxL := 2) (ret := none) (by decide) rfl ?_
  intro p e s m args below meth c s₁ B hml hv
  obtain ⟨rfl, hsz, hP, hK, hD0, hsz9⟩ := hv
  have hx := B.exec
  have hb := B.bytes
  have hr := B.returns
  have hts := atoms_spec (ws := wsX4_addCode) B.pre
  have hown : s.vm.findClass RX4 = some m.cls := findClass_of_methodNamed B.named
  have hlocks := B.notSynchronized
  subst hsz
  have hD := hD0.self (sz := s.heap.size)
  generalize hAe : va_A ws s.heap.size = A at hD hsz9 ⊢
  have hA : ∀ q : Nat, s.heap.size ≤ q → A q := fun q h => by rw [← hAe]; exact Or.inr h
  have hS : va_S A s.heap s.heap [] := va_S.rf
  have hsm : sm ρ [4, 6] ws ws := sm.rf ws
  have htx : tyx tys tys := tyx.rf tys
  have hin4 : ∀ w ∈ u_ws RX4 TX4 8, w ∈ wsX4_addCode := (fun _ h9 => List.mem_cons_of_mem _ ((List.mem_append_right _ h9)))
  have hl := lv_entry ([.ref rd, .int a1]) (n := 2) (Nat.le_of_ble_eq_true rfl)
  rw [lg_entry_eq]
  generalize (lg_sl ([.ref rd, .int a1]) ++ List.replicate (2 - (lg_sl ([.ref rd, .int a1])).length) Slot.unset).toArray = ls at hl ⊢
  have hl : lv_has ls 2 [(0, .ref rd), (1, .int a1)] := hl
  obtain ⟨ts_1, te_2, cc_3, ra_4, rb_5, rc_6, rv_7, re_8, ya_9, h1_10, h2_11, h3_12, h4_13, er_14, et_15, wr_16, wt_17, ⟨k_18, c9_19, t_20, f_21, e_22, u_23, w_24⟩, ⟨k_25, c9_26, t_27, f_28, e_29, u_30, w_31⟩⟩ := id R0
  refine lv_aload_n hx hb dX4_addCode_0 rfl (lv_at hl 0 rfl) ?_
  refine va_get (D := D) (ci := 4) (v := .int (nI cc_3)) (C := RX4) (T := TX4) (N := 8) hx hb hts hin4 hown hK hP krd er_14 rfl 6 (by decide) (hts (.fieldLink RX4 29 "HoneyHouse$RuleReader" "codeCount" "I") (List.mem_of_getElem? (i := 1) rfl)) (fun _ h9 => h9) rfl dX4_addCode_1 ?_
  refine lv_if_lt (tgt := 39) hx hb dX4_addCode_4 (by decide) (fun c_32 => absurd c_32 (nI_pos (n := cc_3) (by omega))) (fun c_32 => ?_)
  refine lv_aload_n hx hb dX4_addCode_7 rfl (lv_at hl 0 rfl) ?_
  refine va_get (D := D) (ci := 4) (v := .int (nI cc_3)) (C := RX4) (T := TX4) (N := 8) hx hb hts hin4 hown hK hP krd er_14 rfl 6 (by decide) (hts (.fieldLink RX4 29 "HoneyHouse$RuleReader" "codeCount" "I") (List.mem_of_getElem? (i := 1) rfl)) (fun _ h9 => h9) rfl dX4_addCode_8 ?_
  refine lv_aload_n hx hb dX4_addCode_11 rfl (lv_at hl 0 rfl) ?_
  refine va_get (D := D) (ci := 4) (v := .ref cd) (C := RX4) (T := TX4) (N := 8) hx hb hts hin4 hown hK hP krd er_14 rfl 5 (by decide) (hts (.fieldLink RX4 22 "HoneyHouse$RuleReader" "codes" "[I") (List.mem_of_getElem? (i := 2) rfl)) (fun _ h9 => h9) rfl dX4_addCode_12 ?_
  refine va_alen (v := 200) hx hb hK hP k_18 t_20 e_22 u_23 rfl dX4_addCode_15 ?_
  refine lv_icmp_ge (tgt := 39) hx hb dX4_addCode_16 (by decide) (fun c_33 => ?_) (fun c_33 => ?_)
  · have d_34 := n_le (a := 200) (b := cc_3) (by omega) (by omega) c_33
    exact W.vret hx hb hr (fun t ht hW => ⟨⟨(), rfl, trivial, ws, tys, hsm, htx, by rw [ht]; exact hP, va_K.moved hW.alike hK, hD, (⟨ts_1, te_2, cc_3, ra_4, rb_5, rc_6, rv_7, re_8, ya_9, by omega, by omega, by omega, by omega, er_14, et_15, wr_16, wt_17, ⟨k_18, c9_19, t_20, f_21, e_22, u_23, w_24⟩, ⟨k_25, c9_26, t_27, f_28, e_29, u_30, w_31⟩⟩ : RS ρ ws tys rd krd tp ktp cd bb tl)⟩, hS.F ht⟩) hS.2.2 dX4_addCode_39
  have d_35 := n_nle (a := 200) (b := cc_3) (by omega) (by omega) c_33
  refine lv_aload_n hx hb dX4_addCode_19 rfl (lv_at hl 0 rfl) ?_
  refine va_get (D := D) (ci := 4) (v := .ref cd) (C := RX4) (T := TX4) (N := 8) hx hb hts hin4 hown hK hP krd er_14 rfl 5 (by decide) (hts (.fieldLink RX4 22 "HoneyHouse$RuleReader" "codes" "[I") (List.mem_of_getElem? (i := 2) rfl)) (fun _ h9 => h9) rfl dX4_addCode_20 ?_
  refine lv_aload_n hx hb dX4_addCode_23 rfl (lv_at hl 0 rfl) ?_
  refine va_get (D := D) (ci := 4) (v := .int (nI cc_3)) (C := RX4) (T := TX4) (N := 8) hx hb hts hin4 hown hK hP krd er_14 rfl 6 (by decide) (hts (.fieldLink RX4 29 "HoneyHouse$RuleReader" "codeCount" "I") (List.mem_of_getElem? (i := 1) rfl)) (fun _ h9 => h9) rfl dX4_addCode_24 ?_
  refine lv_iload_n hx hb dX4_addCode_27 rfl (lv_at hl 1 rfl) ?_
  refine va_iast (f := f_21) (n := 200) hx hb hK hP hD hS k_18 t_20 e_22 u_23 (vp_in_nI (n := cc_3) (by omega) (by omega)) dX4_addCode_28 (fun H locs hP hD hS => ?_)
  have hm_37 : sm ρ [] ws (ws.set k_18 (cd, .inl (c9_19, 200, .inl (upd f_21 (nI cc_3).toNatClampNeg a1)))) := sm.ints e_22 w_24
  have e_38 : (ws.set k_18 (cd, .inl (c9_19, 200, .inl (upd f_21 (nI cc_3).toNatClampNeg a1))))[k_18]? = some (cd, .inl (c9_19, 200, .inl (upd f_21 (nI cc_3).toNatClampNeg a1))) := wset_self e_22
  generalize ws.set k_18 (cd, .inl (c9_19, 200, .inl (upd f_21 (nI cc_3).toNatClampNeg a1))) = ws_36 at hP hD hm_37 e_38
  have e_39 := hm_37.objK er_14 (by decide)
  have e_40 := hm_37.objK et_15 (by decide)
  obtain ⟨f_42, e_41⟩ := hm_37.arrI e_29
  have hsm := hsm.tr (hm_37.mono (fun _ h9 => absurd h9 List.not_mem_nil))
  generalize upd f_21 (nI cc_3).toNatClampNeg a1 = f_43 at e_38
  refine lv_aload_n hx hb dX4_addCode_29 rfl (lv_at hl 0 rfl) ?_
  refine lv_dup hx hb dX4_addCode_30 rfl ?_
  refine va_get (D := D) (ci := 4) (v := .int (nI cc_3)) (C := RX4) (T := TX4) (N := 8) hx hb hts hin4 hown hK hP krd e_39 rfl 6 (by decide) (hts (.fieldLink RX4 29 "HoneyHouse$RuleReader" "codeCount" "I") (List.mem_of_getElem? (i := 1) rfl)) (fun _ h9 => h9) rfl dX4_addCode_31 ?_
  refine lv_iconst (v := 1) hx hb dX4_addCode_34 (by decide) ?_
  refine lv_iadd hx hb dX4_addCode_35 ?_
  refine tp_i (y := nI (cc_3 + 1)) (nI_add cc_3 1) ?_
  refine va_put (D := D) (ci := 4) (v := .int (nI (cc_3 + 1))) (ty := .int) (C := RX4) (T := TX4) (N := 8) hx hb hts hin4 tyX4 tyX4_ok nmX4 hown hK hP hD hS krd e_39 rfl 6 (by decide) (hts (.fieldLink RX4 29 "HoneyHouse$RuleReader" "codeCount" "I") (List.mem_of_getElem? (i := 1) rfl)) (fun _ h9 => h9) rfl (tyX4_ok 6 (by decide)) rfl rfl (Nat.le_of_ble_eq_true rfl) dX4_addCode_36 (fun H locs hP hD hS => ?_)
  have hP : va_P D vwCl (ws_36.set krd (rd, .inr (4, [.ref tp, .long ra_4, .int rb_5, .int rc_6, .int rv_7, .ref cd, .int (nI (cc_3 + 1)), .int re_8]))) H := hP
  have hD : va_D A (ws_36.set krd (rd, .inr (4, [.ref tp, .long ra_4, .int rb_5, .int rc_6, .int rv_7, .ref cd, .int (nI (cc_3 + 1)), .int re_8]))) := hD
  have hm_45 : sm ρ [4] ws_36 (ws_36.set krd (rd, .inr (4, [.ref tp, .long ra_4, .int rb_5, .int rc_6, .int rv_7, .ref cd, .int (nI (cc_3 + 1)), .int re_8]))) := sm.flds e_39 (smF.c (smV.rf _) (smF.c (smV.rf _) (smF.c (smV.rf _) (smF.c (smV.rf _) (smF.c (smV.rf _) (smF.c (smV.rf _) (smF.c (smV.i _ _) (smF.c (smV.rf _) (rfl))))))))) (List.mem_singleton.mpr rfl) wr_16
  have e_46 : (ws_36.set krd (rd, .inr (4, [.ref tp, .long ra_4, .int rb_5, .int rc_6, .int rv_7, .ref cd, .int (nI (cc_3 + 1)), .int re_8])))[krd]? = some (rd, .inr (4, [.ref tp, .long ra_4, .int rb_5, .int rc_6, .int rv_7, .ref cd, .int (nI (cc_3 + 1)), .int re_8])) := wset_self e_39
  generalize ws_36.set krd (rd, .inr (4, [.ref tp, .long ra_4, .int rb_5, .int rc_6, .int rv_7, .ref cd, .int (nI (cc_3 + 1)), .int re_8])) = ws_44 at hP hD hm_45 e_46
  have e_47 := hm_45.objK e_40 (by decide)
  obtain ⟨f_49, e_48⟩ := hm_45.arrI e_38
  obtain ⟨f_51, e_50⟩ := hm_45.arrI e_41
  have hsm := hsm.tr (hm_45.mono (by decide))
  exact W.vret hx hb hr (fun t ht hW => ⟨⟨(), rfl, trivial, ws_44, tys, hsm, htx, by rw [ht]; exact hP, va_K.moved hW.alike hK, hD, (⟨ts_1, te_2, cc_3 + 1, ra_4, rb_5, rc_6, rv_7, re_8, ya_9, by omega, by omega, by omega, by omega, e_46, e_47, wr_16, wt_17, ⟨k_18, c9_19, t_20, f_49, e_48, u_23, w_24⟩, ⟨k_25, c9_26, t_27, f_51, e_50, u_30, w_31⟩⟩ : RS ρ ws_44 tys rd krd tp ktp cd bb tl)⟩, hS.F ht⟩) hS.2.2 dX4_addCode_39
set_option maxHeartbeats 4000000 in
set_option maxRecDepth 100000 in
theorem s_testCode (l : Launch) (a1 a2 a3 : Int32) : Met l yX4_testCode wsX4_testCode ({ frames := 0, cells := 0, slots := 0, locals := 0 }) (va_Pc [.int a1, .int a2, .int a3] (fun _ => True)) (vp_Si (fun r => True)) 0 0 (fun _ => False) := by
  refine Met.ofW (cc := cX4_testCode) (maxL := 3) (ret := (some .int)) (by decide) rfl ?_
  intro p e s m args below meth c s₁ B hml hv
  obtain ⟨rfl, -⟩ := hv
  have hx := B.exec
  have hb := B.bytes
  have hr := B.returns
  have hts := atoms_spec (ws := wsX4_testCode) B.pre
  have hown : s.vm.findClass RX4 = some m.cls := findClass_of_methodNamed B.named
  have hlocks := B.notSynchronized
  have hl := lv_entry ([.int a1, .int a2, .int a3]) (n := 3) (Nat.le_of_ble_eq_true rfl)
  rw [lg_entry_eq]
  generalize (lg_sl ([.int a1, .int a2, .int a3]) ++ List.replicate (3 - (lg_sl ([.int a1, .int a2, .int a3])).length) Slot.unset).toArray = ls at hl ⊢
  have hl : lv_has ls 3 [(0, .int a1), (1, .int a2), (2, .int a3)] := hl
  refine lv_iload_n hx hb dX4_testCode_0 rfl (lv_at hl 0 rfl) ?_
  refine lv_iconst (v := 2) hx hb dX4_testCode_1 (by decide) ?_
  refine lv_imul hx hb dX4_testCode_2 ?_
  refine lv_iload_n hx hb dX4_testCode_3 rfl (lv_at hl 1 rfl) ?_
  refine lv_if_eq (tgt := 11) hx hb dX4_testCode_4 (by decide) (fun c_1 => ?_) (fun c_1 => ?_)
  · refine lv_iconst (v := 0) hx hb dX4_testCode_11 (by decide) ?_
    refine lv_iadd hx hb dX4_testCode_12 ?_
    refine lv_bipush (v := 10) hx hb dX4_testCode_13 (by decide) ?_
    refine lv_ishl hx hb dX4_testCode_15 ?_
    refine lv_iload_n hx hb dX4_testCode_16 rfl (lv_at hl 2 rfl) ?_
    refine lv_iadd hx hb dX4_testCode_17 ?_
    exact W.iret (v := (((a1 * 2) + 0) <<< (10 &&& 31)) + a3) hx hb hr (fun t ht hW => ⟨(((a1 * 2) + 0) <<< (10 &&& 31)) + a3, rfl, trivial, ht⟩) (fun _ h9 => by cases h9) dX4_testCode_18
  refine lv_iconst (v := 1) hx hb dX4_testCode_7 (by decide) ?_
  refine lv_goto (tgt := 12) hx hb dX4_testCode_8 (by decide) ?_
  refine lv_iadd hx hb dX4_testCode_12 ?_
  refine lv_bipush (v := 10) hx hb dX4_testCode_13 (by decide) ?_
  refine lv_ishl hx hb dX4_testCode_15 ?_
  refine lv_iload_n hx hb dX4_testCode_16 rfl (lv_at hl 2 rfl) ?_
  refine lv_iadd hx hb dX4_testCode_17 ?_
  exact W.iret (v := (((a1 * 2) + 1) <<< (10 &&& 31)) + a3) hx hb hr (fun t ht hW => ⟨(((a1 * 2) + 1) <<< (10 &&& 31)) + a3, rfl, trivial, ht⟩) (fun _ h9 => by cases h9) dX4_testCode_18
set_option maxHeartbeats 4000000 in
set_option maxRecDepth 100000 in
theorem r_readTest (l : Launch) (D : va_G) (ρ : Nat → Nat) (ws : va_W) (tys : List (ClassId × FieldType)) (adK adV : Nat → Nat) (fo : Option Nat) (rd krd tp ktp cd bb tl : Nat)  (sz : Nat) (R0 : RS ρ ws tys rd krd tp ktp cd bb tl)  : Met l yX4_readTest wsX4_readTest ({ frames := 6, cells := 0, slots := 0, locals := 127 }) (va_Pc [.ref rd] (fun U => U.heap.size = sz ∧ va_P D vwCl ws U.heap ∧ va_K D vwCl tys U ∧ va_D (fun _ => True) ws ∧ SZ adK adV fo (va_A ws sz) U U.heap)) (va_Qi (fun (r : Int32) (_ : Unit) => r = 0 ∨ r = 1) (fun (_ : Unit) (t : State) => ∃ (ws' : va_W) (tys' : List (ClassId × FieldType)), sm ρ [4, 6] ws ws' ∧ tyx tys tys' ∧ va_P D vwCl ws' t.heap ∧ va_K D vwCl tys' t ∧ va_D (va_A ws sz) ws' ∧ (RS ρ ws' tys' rd krd tp ktp cd bb tl)) (va_A ws sz)) 0 0 (va_A ws sz) := by
  refine Met.ofW (cc := cX4_readTest) (maxL := 3) (ret := (some .boolean)) (by decide) rfl ?_
  intro p e s m args below meth c s₁ B hml hv
  obtain ⟨rfl, hsz, hP, hK, hD0, hsz9⟩ := hv
  have hx := B.exec
  have hb := B.bytes
  have hr := B.returns
  have hts := atoms_spec (ws := wsX4_readTest) B.pre
  have hown : s.vm.findClass RX4 = some m.cls := findClass_of_methodNamed B.named
  have hlocks := B.notSynchronized
  subst hsz
  have hD := hD0.self (sz := s.heap.size)
  generalize hAe : va_A ws s.heap.size = A at hD hsz9 ⊢
  have hA : ∀ q : Nat, s.heap.size ≤ q → A q := fun q h => by rw [← hAe]; exact Or.inr h
  have hS : va_S A s.heap s.heap [] := va_S.rf
  have hsm : sm ρ [4, 6] ws ws := sm.rf ws
  have htx : tyx tys tys := tyx.rf tys
  have hin4 : ∀ w ∈ u_ws RX4 TX4 8, w ∈ wsX4_readTest := (fun _ h9 => List.mem_cons_of_mem _ (List.mem_append_left _ ((List.mem_append_right _ h9))))
  have hl := lv_entry ([.ref rd]) (n := 3) (Nat.le_of_ble_eq_true rfl)
  rw [lg_entry_eq]
  generalize (lg_sl ([.ref rd]) ++ List.replicate (3 - (lg_sl ([.ref rd])).length) Slot.unset).toArray = ls at hl ⊢
  have hl : lv_has ls 3 [(0, .ref rd)] := hl
  obtain ⟨ts_1, te_2, cc_3, ra_4, rb_5, rc_6, rv_7, re_8, ya_9, h1_10, h2_11, h3_12, h4_13, er_14, et_15, wr_16, wt_17, ⟨k_18, c9_19, t_20, f_21, e_22, u_23, w_24⟩, ⟨k_25, c9_26, t_27, f_28, e_29, u_30, w_31⟩⟩ := id R0
  refine lv_aload_n hx hb dX4_readTest_0 rfl (lv_at hl 0 rfl) ?_
  have hFc := free_all hD hS hA
  refine va_calli (va_runV (As := []) (rest := []) ⟨hx, hb, hml, hown, hts⟩ (r_measureNamed l D ρ ws tys adK adV fo rd krd tp ktp cd bb tl  s.heap.size (⟨ts_1, te_2, cc_3, ra_4, rb_5, rc_6, rv_7, re_8, ya_9, by omega, by omega, by omega, by omega, er_14, et_15, wr_16, wt_17, ⟨k_18, c9_19, t_20, f_21, e_22, u_23, w_24⟩, ⟨k_25, c9_26, t_27, f_28, e_29, u_30, w_31⟩⟩ : RS ρ ws tys rd krd tp ktp cd bb tl)) (cwV 0 hts gX4_readTest_X4_measureNamed rfl rfl rfl (by decide +kernel) ⟨Nat.le_of_ble_eq_true rfl, Nat.le_of_ble_eq_true rfl⟩) ⟨fun a U g mk q => by obtain ⟨q0, q1, qP, qK, qD, qS⟩ := q; exact ⟨q0, q1, qP, va_K.moved (u := U) (U := U.calling g mk a) (Vm.Alike.refl U.vm) qK, qD, SZ.same rfl rfl qS⟩, va_recv hK hP (ci := 4) (q0 := krd) rfl er_14, fun U hU hW => ⟨rfl, by rw [hU], by rw [hU]; exact hP, va_K.moved hW.alike hK, hD.weaken (fun _ _ _ _ => trivial), hsz9.go hS hW hU hFc⟩⟩ rfl rfl hl.1 rfl (lv_room (Nat.le_of_ble_eq_true rfl)) dX4_readTest_1 ⟨Nat.le_of_ble_eq_true rfl, Nat.le_of_ble_eq_true rfl⟩) hS (fun q _ h => hFc q h) hFc (fun r_32 u t H1 locs ht hvm w_33 hB hz1 hk1 hS => ?_)
  obtain ⟨ws_34, ty_35, hm_36, ht_38, hP1, hK1, hD1, hx_37⟩ := hB
  rw [ht] at hP1
  have hK := va_K.moved hvm.symm hK1
  have hD := hD1.weaken (fun _ _ _ h => hFc _ h)
  generalize H1 = H at hP1 hS ⊢
  have hP := hP1
  have e_39 := hm_36.objK er_14 (by decide)
  have e_40 := hm_36.objK et_15 (by decide)
  obtain ⟨f_42, e_41⟩ := hm_36.arrI e_22
  have u_43 := ht_38 _ _ u_23
  obtain ⟨f_45, e_44⟩ := hm_36.arrI e_29
  have u_46 := ht_38 _ _ u_30
  have hsm := hsm.tr (hm_36.mono (by decide))
  have htx := htx.tr ht_38
  refine lv_istore_n (lv' := [(1, .int r_32), (0, .ref rd)]) hx hb dX4_readTest_4 rfl hl (by decide) rfl (fun ls hl => ?_)
  refine lv_iload_n hx hb dX4_readTest_5 rfl (lv_at hl 0 rfl) ?_
  refine lv_iconst (v := (-1)) hx hb dX4_readTest_6 (by decide) ?_
  refine lv_icmp_ne (tgt := 15) hx hb dX4_readTest_7 (by decide) (fun c_47 => ?_) (fun c_47 => ?_)
  · refine lv_aload_n hx hb dX4_readTest_15 rfl (lv_at hl 1 rfl) ?_
    refine va_get (D := D) (ci := 4) (v := .ref tp) (C := RX4) (T := TX4) (N := 8) hx hb hts hin4 hown hK hP krd e_39 rfl 0 (by decide) (hts (.fieldLink RX4 12 "HoneyHouse$RuleReader" "tape" "LHoneyHouse$Tape;") (List.mem_of_getElem? (i := 1) rfl)) (fun _ h9 => h9) rfl dX4_readTest_16 ?_
    have hFc := free_all hD hS hA
    refine va_callv (va_runV (As := []) (rest := []) ⟨hx, hb, hml, hown, hts⟩ (a_advance l D ρ ws_34 ty_35 tp ktp tl te_2 ya_9 (nI ts_1) bb k_25 c9_26 t_27 f_45 H.size (by omega) (by omega) e_40 e_44 u_46 wt_17) (cwV 0 hts gX4_readTest_X6_advance rfl rfl rfl (by decide +kernel) ⟨Nat.le_of_ble_eq_true rfl, Nat.le_of_ble_eq_true rfl⟩) ⟨fun a U g mk q => by obtain ⟨q0, q1, qP, qK, qD⟩ := q; exact ⟨q0, q1, qP, va_K.moved (u := U) (U := U.calling g mk a) (Vm.Alike.refl U.vm) qK, qD⟩, va_recv hK hP (ci := 6) (q0 := ktp) rfl e_40, fun U hU hW => ⟨rfl, by rw [hU], by rw [hU]; exact hP, va_K.moved hW.alike hK, hD.weaken (fun _ _ _ _ => trivial)⟩⟩ rfl rfl hl.1 rfl (lv_room (Nat.le_of_ble_eq_true rfl)) dX4_readTest_19 ⟨Nat.le_of_ble_eq_true rfl, Nat.le_of_ble_eq_true rfl⟩) hS (fun q _ h => hFc q h) hFc (fun u t H1 locs ht hvm w_49 hB hz1 hk1 hS => ?_)
    obtain ⟨ws_50, ty_51, hm_52, ht_54, hP1, hK1, hD1, hx_53⟩ := hB
    rw [ht] at hP1
    have hK := va_K.moved hvm.symm hK1
    have hD := hD1.weaken (fun _ _ _ h => hFc _ h)
    generalize H1 = H at hP1 hS ⊢
    have hP := hP1
    have e_55 := hm_52.objK e_39 (by decide)
    obtain ⟨g_57, e_56, h_58⟩ := hm_52.obj e_40
    obtain ⟨z_59, z_60, z_61, z_62, rfl⟩ := smX6 h_58
    obtain ⟨f_64, e_63⟩ := hm_52.arrI e_41
    have u_65 := ht_54 _ _ u_43
    obtain ⟨f_67, e_66⟩ := hm_52.arrI e_44
    have u_68 := ht_54 _ _ u_46
    have hsm := hsm.tr (hm_52.mono (by decide))
    have htx := htx.tr ht_54
    obtain ⟨k_69, s_70, e_71, h_72, h_73, h_74, e_75⟩ := hx_53
    refine lv_iload_n hx hb dX4_readTest_22 rfl (lv_at hl 0 rfl) ?_
    refine lv_bipush (v := 10) hx hb dX4_readTest_23 (by decide) ?_
    refine lv_icmp_eq (tgt := 34) hx hb dX4_readTest_25 (by decide) (fun c_76 => ?_) (fun c_76 => ?_)
    · refine lv_aload_n hx hb dX4_readTest_34 rfl (lv_at hl 1 rfl) ?_
      refine lv_iload_n hx hb dX4_readTest_35 rfl (lv_at hl 0 rfl) ?_
      refine lv_bipush (v := 30) hx hb dX4_readTest_36 (by decide) ?_
      refine lv_icmp_ne (tgt := 45) hx hb dX4_readTest_38 (by decide) (fun c_77 => ?_) (fun c_77 => ?_)
      · refine lv_iconst (v := 4) hx hb dX4_readTest_45 (by decide) ?_
        have hFc := free_all hD hS hA
        refine va_calli (va_runV (As := [.int 4]) (rest := []) ⟨hx, hb, hml, hown, hts⟩ (r_readNumber l D ρ ws_50 ty_51 adK adV fo rd krd tp ktp cd bb tl 4 H.size (⟨s_70, e_71, cc_3, ra_4, rb_5, rc_6, rv_7, re_8, nI k_69, by omega, by omega, by omega, by omega, e_55, e_75, wr_16, wt_17, ⟨k_18, c9_19, t_20, f_64, e_63, u_65, w_24⟩, ⟨k_25, c9_26, t_27, f_67, e_66, u_68, w_31⟩⟩ : RS ρ ws_50 ty_51 rd krd tp ktp cd bb tl)) (cwV 1 hts gX4_readTest_X4_readNumber rfl rfl rfl (by decide +kernel) ⟨Nat.le_of_ble_eq_true rfl, Nat.le_of_ble_eq_true rfl⟩) ⟨fun a U g mk q => by obtain ⟨q0, q1, qP, qK, qD, qS⟩ := q; exact ⟨q0, q1, qP, va_K.moved (u := U) (U := U.calling g mk a) (Vm.Alike.refl U.vm) qK, qD, SZ.same rfl rfl qS⟩, va_recv hK hP (ci := 4) (q0 := krd) rfl e_55, fun U hU hW => ⟨rfl, by rw [hU], by rw [hU]; exact hP, va_K.moved hW.alike hK, hD.weaken (fun _ _ _ _ => trivial), hsz9.go hS hW hU hFc⟩⟩ rfl rfl hl.1 rfl (lv_room (Nat.le_of_ble_eq_true rfl)) dX4_readTest_46 ⟨Nat.le_of_ble_eq_true rfl, Nat.le_of_ble_eq_true rfl⟩) hS (fun q _ h => hFc q h) hFc (fun r_78 u t H1 locs ht hvm w_79 hB hz1 hk1 hS => ?_)
        obtain ⟨ws_80, ty_81, hm_82, ht_84, hP1, hK1, hD1, hx_83⟩ := hB
        rw [ht] at hP1
        have hK := va_K.moved hvm.symm hK1
        have hD := hD1.weaken (fun _ _ _ h => hFc _ h)
        generalize H1 = H at hP1 hS ⊢
        have hP := hP1
        obtain ⟨g_86, e_85, h_87⟩ := hm_82.obj e_55
        obtain ⟨z_88, z_89, z_90, z_91, z_92, z_93, rfl⟩ := smX4 h_87
        obtain ⟨g_95, e_94, h_96⟩ := hm_82.obj e_75
        obtain ⟨z_97, z_98, z_99, z_100, rfl⟩ := smX6 h_96
        obtain ⟨f_102, e_101⟩ := hm_82.arrI e_63
        have u_103 := ht_84 _ _ u_65
        obtain ⟨f_105, e_104⟩ := hm_82.arrI e_66
        have u_106 := ht_84 _ _ u_68
        have hsm := hsm.tr (hm_82.mono (by decide))
        have htx := htx.tr ht_84
        obtain ⟨ts_107, te_108, cc_109, ra_110, rb_111, rc_112, rv_113, re_114, ya_115, h1_116, h2_117, h3_118, h4_119, er_120, et_121, wr_122, wt_123, ⟨k_124, c9_125, t_126, f_127, e_128, u_129, w_130⟩, ⟨k_131, c9_132, t_133, f_134, e_135, u_136, w_137⟩⟩ := id hx_83
        rcases w_79 with rfl | rfl
        · refine lv_if_ne (tgt := 54) hx hb dX4_readTest_49 (by decide) (fun c_138 => absurd (by decide) c_138) (fun c_138 => ?_)
          refine lv_iconst (v := 0) hx hb dX4_readTest_52 (by decide) ?_
          exact W.zret (v := 0) hx hb hr rfl (fun t ht hW => ⟨⟨0, (), rfl, Or.inl rfl, ws_80, ty_81, hsm, htx, by rw [ht]; exact hP, va_K.moved hW.alike hK, hD, (⟨ts_107, te_108, cc_109, ra_110, rb_111, rc_112, rv_113, re_114, ya_115, by omega, by omega, by omega, by omega, er_120, et_121, wr_122, wt_123, ⟨k_124, c9_125, t_126, f_127, e_128, u_129, w_130⟩, ⟨k_131, c9_132, t_133, f_134, e_135, u_136, w_137⟩⟩ : RS ρ ws_80 ty_81 rd krd tp ktp cd bb tl)⟩, hS.F ht⟩) hS.2.2 dX4_readTest_53
        refine lv_if_ne (tgt := 54) hx hb dX4_readTest_49 (by decide) (fun c_139 => ?_) (fun c_139 => absurd c_139 (by decide))
        refine lv_iload_n hx hb dX4_readTest_54 rfl (lv_at hl 0 rfl) ?_
        refine lv_aload_n hx hb dX4_readTest_55 rfl (lv_at hl 1 rfl) ?_
        refine va_get (D := D) (ci := 4) (v := .int re_114) (C := RX4) (T := TX4) (N := 8) hx hb hts hin4 hown hK hP krd er_120 rfl 7 (by decide) (hts (.fieldLink RX4 56 "HoneyHouse$RuleReader" "value" "I") (List.mem_of_getElem? (i := 2) rfl)) (fun _ h9 => h9) rfl dX4_readTest_56 ?_
        refine lv_iadd hx hb dX4_readTest_59 ?_
        refine lv_topi (fun z_140 _ => ?_)
        refine lv_istore_n (lv' := [(1, .int z_140), (0, .ref rd)]) hx hb dX4_readTest_60 rfl hl (by decide) rfl (fun ls hl => ?_)
        refine lv_aload_n hx hb dX4_readTest_61 rfl (lv_at hl 1 rfl) ?_
        refine va_get (D := D) (ci := 4) (v := .ref tp) (C := RX4) (T := TX4) (N := 8) hx hb hts hin4 hown hK hP krd er_120 rfl 0 (by decide) (hts (.fieldLink RX4 12 "HoneyHouse$RuleReader" "tape" "LHoneyHouse$Tape;") (List.mem_of_getElem? (i := 1) rfl)) (fun _ h9 => h9) rfl dX4_readTest_62 ?_
        refine va_ldcS hx hb hown hsz9.2.2.2.2.2.2.2.2.1 dX4_readTest_65 ?_
        have hFc := free_all hD hS hA
        refine va_calli (va_runV (As := [.ref (adK 5)]) (rest := []) ⟨hx, hb, hml, hown, hts⟩ (a_isWord l D ρ ws_80 ty_81 adK adV fo 5 tp ktp tl ya_115 (nI ts_107) (nI te_108) bb k_131 c9_132 t_133 f_134 H.size (by decide) et_121 e_135 u_136) (cwV 1 hts gX4_readTest_X6_isWord rfl rfl rfl (by decide +kernel) ⟨Nat.le_of_ble_eq_true rfl, Nat.le_of_ble_eq_true rfl⟩) ⟨fun a U g mk q => by obtain ⟨q0, q1, qP, qK, qD, qS⟩ := q; exact ⟨q0, q1, qP, va_K.moved (u := U) (U := U.calling g mk a) (Vm.Alike.refl U.vm) qK, qD, SZ.same rfl rfl qS⟩, va_recv hK hP (ci := 6) (q0 := ktp) rfl et_121, fun U hU hW => ⟨rfl, by rw [hU], by rw [hU]; exact hP, va_K.moved hW.alike hK, hD.weaken (fun _ _ _ _ => trivial), hsz9.go hS hW hU hFc⟩⟩ rfl rfl hl.1 rfl (lv_room (Nat.le_of_ble_eq_true rfl)) dX4_readTest_67 ⟨Nat.le_of_ble_eq_true rfl, Nat.le_of_ble_eq_true rfl⟩) hS (fun q _ h => hFc q h) hFc (fun r_141 u t H1 locs ht hvm w_142 hB hz1 hk1 hS => ?_)
        obtain ⟨ws_143, ty_144, hm_145, ht_147, hP1, hK1, hD1, hx_146⟩ := hB
        rw [ht] at hP1
        have hK := va_K.moved hvm.symm hK1
        have hD := hD1.weaken (fun _ _ _ h => hFc _ h)
        generalize H1 = H at hP1 hS ⊢
        have hP := hP1
        have e_148 := hm_145.objK er_120 (by decide)
        have e_149 := hm_145.objK et_121 (by decide)
        obtain ⟨f_151, e_150⟩ := hm_145.arrI e_128
        have u_152 := ht_147 _ _ u_129
        obtain ⟨f_154, e_153⟩ := hm_145.arrI e_135
        have u_155 := ht_147 _ _ u_136
        have hsm := hsm.tr (hm_145.mono (by decide))
        have htx := htx.tr ht_147
        rcases w_142 with rfl | rfl
        · refine lv_istore_n (lv' := [(2, .int 0), (1, .int z_140), (0, .ref rd)]) hx hb dX4_readTest_70 rfl hl (by decide) rfl (fun ls hl => ?_)
          refine lv_iload_n hx hb dX4_readTest_71 rfl (lv_at hl 0 rfl) ?_
          refine lv_if_ne (tgt := 92) hx hb dX4_readTest_72 (by decide) (fun c_156 => absurd (by decide) c_156) (fun c_156 => ?_)
          refine lv_aload_n hx hb dX4_readTest_75 rfl (lv_at hl 2 rfl) ?_
          refine va_get (D := D) (ci := 4) (v := .ref tp) (C := RX4) (T := TX4) (N := 8) hx hb hts hin4 hown hK hP krd e_148 rfl 0 (by decide) (hts (.fieldLink RX4 12 "HoneyHouse$RuleReader" "tape" "LHoneyHouse$Tape;") (List.mem_of_getElem? (i := 1) rfl)) (fun _ h9 => h9) rfl dX4_readTest_76 ?_
          refine va_ldcS hx hb hown hsz9.2.2.2.2.2.2.2.1 dX4_readTest_79 ?_
          have hFc := free_all hD hS hA
          refine va_calli (va_runV (As := [.ref (adK 4)]) (rest := []) ⟨hx, hb, hml, hown, hts⟩ (a_isWord l D ρ ws_143 ty_144 adK adV fo 4 tp ktp tl ya_115 (nI ts_107) (nI te_108) bb k_131 c9_132 t_133 f_154 H.size (by decide) e_149 e_153 u_155) (cwV 1 hts gX4_readTest_X6_isWord rfl rfl rfl (by decide +kernel) ⟨Nat.le_of_ble_eq_true rfl, Nat.le_of_ble_eq_true rfl⟩) ⟨fun a U g mk q => by obtain ⟨q0, q1, qP, qK, qD, qS⟩ := q; exact ⟨q0, q1, qP, va_K.moved (u := U) (U := U.calling g mk a) (Vm.Alike.refl U.vm) qK, qD, SZ.same rfl rfl qS⟩, va_recv hK hP (ci := 6) (q0 := ktp) rfl e_149, fun U hU hW => ⟨rfl, by rw [hU], by rw [hU]; exact hP, va_K.moved hW.alike hK, hD.weaken (fun _ _ _ _ => trivial), hsz9.go hS hW hU hFc⟩⟩ rfl rfl hl.1 rfl (lv_room (Nat.le_of_ble_eq_true rfl)) dX4_readTest_81 ⟨Nat.le_of_ble_eq_true rfl, Nat.le_of_ble_eq_true rfl⟩) hS (fun q _ h => hFc q h) hFc (fun r_157 u t H1 locs ht hvm w_158 hB hz1 hk1 hS => ?_)
          obtain ⟨ws_159, ty_160, hm_161, ht_163, hP1, hK1, hD1, hx_162⟩ := hB
          rw [ht] at hP1
          have hK := va_K.moved hvm.symm hK1
          have hD := hD1.weaken (fun _ _ _ h => hFc _ h)
          generalize H1 = H at hP1 hS ⊢
          have hP := hP1
          have e_164 := hm_161.objK e_148 (by decide)
          have e_165 := hm_161.objK e_149 (by decide)
          obtain ⟨f_167, e_166⟩ := hm_161.arrI e_150
          have u_168 := ht_163 _ _ u_152
          obtain ⟨f_170, e_169⟩ := hm_161.arrI e_153
          have u_171 := ht_163 _ _ u_155
          have hsm := hsm.tr (hm_161.mono (by decide))
          have htx := htx.tr ht_163
          rcases w_158 with rfl | rfl
          · refine lv_if_ne (tgt := 92) hx hb dX4_readTest_84 (by decide) (fun c_172 => absurd (by decide) c_172) (fun c_172 => ?_)
            refine lv_aload_n hx hb dX4_readTest_87 rfl (lv_at hl 2 rfl) ?_
            have hFc := free_all hD hS hA
            refine va_calli (va_runV (As := []) (rest := []) ⟨hx, hb, hml, hown, hts⟩ (r_failHere l D ρ ws_159 ty_160 adK adV fo rd krd tp ktp cd bb tl  H.size (⟨ts_107, te_108, cc_109, ra_110, rb_111, rc_112, rv_113, re_114, ya_115, by omega, by omega, by omega, by omega, e_164, e_165, wr_122, wt_123, ⟨k_124, c9_125, t_126, f_167, e_166, u_168, w_130⟩, ⟨k_131, c9_132, t_133, f_170, e_169, u_171, w_137⟩⟩ : RS ρ ws_159 ty_160 rd krd tp ktp cd bb tl)) (cwV 0 hts gX4_readTest_X4_failHere rfl rfl rfl (by decide +kernel) ⟨Nat.le_of_ble_eq_true rfl, Nat.le_of_ble_eq_true rfl⟩) ⟨fun a U g mk q => by obtain ⟨q0, q1, qP, qK, qD, qS⟩ := q; exact ⟨q0, q1, qP, va_K.moved (u := U) (U := U.calling g mk a) (Vm.Alike.refl U.vm) qK, qD, SZ.same rfl rfl qS⟩, va_recv hK hP (ci := 4) (q0 := krd) rfl e_164, fun U hU hW => ⟨rfl, by rw [hU], by rw [hU]; exact hP, va_K.moved hW.alike hK, hD.weaken (fun _ _ _ _ => trivial), hsz9.go hS hW hU hFc⟩⟩ rfl rfl hl.1 rfl (lv_room (Nat.le_of_ble_eq_true rfl)) dX4_readTest_88 ⟨Nat.le_of_ble_eq_true rfl, Nat.le_of_ble_eq_true rfl⟩) hS (fun q _ h => hFc q h) hFc (fun r_173 u t H1 locs ht hvm w_174 hB hz1 hk1 hS => ?_)
            obtain ⟨ws_175, ty_176, hm_177, ht_179, hP1, hK1, hD1, hx_178⟩ := hB
            rw [ht] at hP1
            have hK := va_K.moved hvm.symm hK1
            have hD := hD1.weaken (fun _ _ _ h => hFc _ h)
            generalize H1 = H at hP1 hS ⊢
            have hP := hP1
            obtain ⟨g_181, e_180, h_182⟩ := hm_177.obj e_164
            obtain ⟨z_183, z_184, z_185, z_186, z_187, z_188, rfl⟩ := smX4 h_182
            obtain ⟨g_190, e_189, h_191⟩ := hm_177.obj e_165
            obtain ⟨z_192, z_193, z_194, z_195, rfl⟩ := smX6 h_191
            obtain ⟨f_197, e_196⟩ := hm_177.arrI e_166
            have u_198 := ht_179 _ _ u_168
            obtain ⟨f_200, e_199⟩ := hm_177.arrI e_169
            have u_201 := ht_179 _ _ u_171
            have hsm := hsm.tr (hm_177.mono (by decide))
            have htx := htx.tr ht_179
            obtain ⟨ts_202, te_203, cc_204, ra_205, rb_206, rc_207, rv_208, re_209, ya_210, h1_211, h2_212, h3_213, h4_214, er_215, et_216, wr_217, wt_218, ⟨k_219, c9_220, t_221, f_222, e_223, u_224, w_225⟩, ⟨k_226, c9_227, t_228, f_229, e_230, u_231, w_232⟩⟩ := id hx_178
            subst w_174
            exact W.zret (v := 0) hx hb hr rfl (fun t ht hW => ⟨⟨0, (), rfl, Or.inl rfl, ws_175, ty_176, hsm, htx, by rw [ht]; exact hP, va_K.moved hW.alike hK, hD, (⟨ts_202, te_203, cc_204, ra_205, rb_206, rc_207, rv_208, re_209, ya_210, by omega, by omega, by omega, by omega, er_215, et_216, wr_217, wt_218, ⟨k_219, c9_220, t_221, f_222, e_223, u_224, w_225⟩, ⟨k_226, c9_227, t_228, f_229, e_230, u_231, w_232⟩⟩ : RS ρ ws_175 ty_176 rd krd tp ktp cd bb tl)⟩, hS.F ht⟩) hS.2.2 dX4_readTest_91
          refine lv_if_ne (tgt := 92) hx hb dX4_readTest_84 (by decide) (fun c_233 => ?_) (fun c_233 => absurd c_233 (by decide))
          refine lv_aload_n hx hb dX4_readTest_92 rfl (lv_at hl 2 rfl) ?_
          refine va_get (D := D) (ci := 4) (v := .ref tp) (C := RX4) (T := TX4) (N := 8) hx hb hts hin4 hown hK hP krd e_164 rfl 0 (by decide) (hts (.fieldLink RX4 12 "HoneyHouse$RuleReader" "tape" "LHoneyHouse$Tape;") (List.mem_of_getElem? (i := 1) rfl)) (fun _ h9 => h9) rfl dX4_readTest_93 ?_
          have hFc := free_all hD hS hA
          refine va_callv (va_runV (As := []) (rest := []) ⟨hx, hb, hml, hown, hts⟩ (a_advance l D ρ ws_159 ty_160 tp ktp tl te_108 ya_115 (nI ts_107) bb k_131 c9_132 t_133 f_170 H.size (by omega) (by omega) e_165 e_169 u_171 wt_123) (cwV 0 hts gX4_readTest_X6_advance rfl rfl rfl (by decide +kernel) ⟨Nat.le_of_ble_eq_true rfl, Nat.le_of_ble_eq_true rfl⟩) ⟨fun a U g mk q => by obtain ⟨q0, q1, qP, qK, qD⟩ := q; exact ⟨q0, q1, qP, va_K.moved (u := U) (U := U.calling g mk a) (Vm.Alike.refl U.vm) qK, qD⟩, va_recv hK hP (ci := 6) (q0 := ktp) rfl e_165, fun U hU hW => ⟨rfl, by rw [hU], by rw [hU]; exact hP, va_K.moved hW.alike hK, hD.weaken (fun _ _ _ _ => trivial)⟩⟩ rfl rfl hl.1 rfl (lv_room (Nat.le_of_ble_eq_true rfl)) dX4_readTest_96 ⟨Nat.le_of_ble_eq_true rfl, Nat.le_of_ble_eq_true rfl⟩) hS (fun q _ h => hFc q h) hFc (fun u t H1 locs ht hvm w_235 hB hz1 hk1 hS => ?_)
          obtain ⟨ws_236, ty_237, hm_238, ht_240, hP1, hK1, hD1, hx_239⟩ := hB
          rw [ht] at hP1
          have hK := va_K.moved hvm.symm hK1
          have hD := hD1.weaken (fun _ _ _ h => hFc _ h)
          generalize H1 = H at hP1 hS ⊢
          have hP := hP1
          have e_241 := hm_238.objK e_164 (by decide)
          obtain ⟨g_243, e_242, h_244⟩ := hm_238.obj e_165
          obtain ⟨z_245, z_246, z_247, z_248, rfl⟩ := smX6 h_244
          obtain ⟨f_250, e_249⟩ := hm_238.arrI e_166
          have u_251 := ht_240 _ _ u_168
          obtain ⟨f_253, e_252⟩ := hm_238.arrI e_169
          have u_254 := ht_240 _ _ u_171
          have hsm := hsm.tr (hm_238.mono (by decide))
          have htx := htx.tr ht_240
          obtain ⟨k_255, s_256, e_257, h_258, h_259, h_260, e_261⟩ := hx_239
          refine lv_aload_n hx hb dX4_readTest_99 rfl (lv_at hl 2 rfl) ?_
          refine lv_sipush (v := 1000) hx hb dX4_readTest_100 (by decide) ?_
          have hFc := free_all hD hS hA
          refine va_calli (va_runV (As := [.int 1000]) (rest := []) ⟨hx, hb, hml, hown, hts⟩ (r_readNumber l D ρ ws_236 ty_237 adK adV fo rd krd tp ktp cd bb tl 1000 H.size (⟨s_256, e_257, cc_109, ra_110, rb_111, rc_112, rv_113, re_114, nI k_255, by omega, by omega, by omega, by omega, e_241, e_261, wr_122, wt_123, ⟨k_124, c9_125, t_126, f_250, e_249, u_251, w_130⟩, ⟨k_131, c9_132, t_133, f_253, e_252, u_254, w_137⟩⟩ : RS ρ ws_236 ty_237 rd krd tp ktp cd bb tl)) (cwV 1 hts gX4_readTest_X4_readNumber rfl rfl rfl (by decide +kernel) ⟨Nat.le_of_ble_eq_true rfl, Nat.le_of_ble_eq_true rfl⟩) ⟨fun a U g mk q => by obtain ⟨q0, q1, qP, qK, qD, qS⟩ := q; exact ⟨q0, q1, qP, va_K.moved (u := U) (U := U.calling g mk a) (Vm.Alike.refl U.vm) qK, qD, SZ.same rfl rfl qS⟩, va_recv hK hP (ci := 4) (q0 := krd) rfl e_241, fun U hU hW => ⟨rfl, by rw [hU], by rw [hU]; exact hP, va_K.moved hW.alike hK, hD.weaken (fun _ _ _ _ => trivial), hsz9.go hS hW hU hFc⟩⟩ rfl rfl hl.1 rfl (lv_room (Nat.le_of_ble_eq_true rfl)) dX4_readTest_103 ⟨Nat.le_of_ble_eq_true rfl, Nat.le_of_ble_eq_true rfl⟩) hS (fun q _ h => hFc q h) hFc (fun r_262 u t H1 locs ht hvm w_263 hB hz1 hk1 hS => ?_)
          obtain ⟨ws_264, ty_265, hm_266, ht_268, hP1, hK1, hD1, hx_267⟩ := hB
          rw [ht] at hP1
          have hK := va_K.moved hvm.symm hK1
          have hD := hD1.weaken (fun _ _ _ h => hFc _ h)
          generalize H1 = H at hP1 hS ⊢
          have hP := hP1
          obtain ⟨g_270, e_269, h_271⟩ := hm_266.obj e_241
          obtain ⟨z_272, z_273, z_274, z_275, z_276, z_277, rfl⟩ := smX4 h_271
          obtain ⟨g_279, e_278, h_280⟩ := hm_266.obj e_261
          obtain ⟨z_281, z_282, z_283, z_284, rfl⟩ := smX6 h_280
          obtain ⟨f_286, e_285⟩ := hm_266.arrI e_249
          have u_287 := ht_268 _ _ u_251
          obtain ⟨f_289, e_288⟩ := hm_266.arrI e_252
          have u_290 := ht_268 _ _ u_254
          have hsm := hsm.tr (hm_266.mono (by decide))
          have htx := htx.tr ht_268
          obtain ⟨ts_291, te_292, cc_293, ra_294, rb_295, rc_296, rv_297, re_298, ya_299, h1_300, h2_301, h3_302, h4_303, er_304, et_305, wr_306, wt_307, ⟨k_308, c9_309, t_310, f_311, e_312, u_313, w_314⟩, ⟨k_315, c9_316, t_317, f_318, e_319, u_320, w_321⟩⟩ := id hx_267
          rcases w_263 with rfl | rfl
          · refine lv_if_ne (tgt := 111) hx hb dX4_readTest_106 (by decide) (fun c_322 => absurd (by decide) c_322) (fun c_322 => ?_)
            refine lv_iconst (v := 0) hx hb dX4_readTest_109 (by decide) ?_
            exact W.zret (v := 0) hx hb hr rfl (fun t ht hW => ⟨⟨0, (), rfl, Or.inl rfl, ws_264, ty_265, hsm, htx, by rw [ht]; exact hP, va_K.moved hW.alike hK, hD, (⟨ts_291, te_292, cc_293, ra_294, rb_295, rc_296, rv_297, re_298, ya_299, by omega, by omega, by omega, by omega, er_304, et_305, wr_306, wt_307, ⟨k_308, c9_309, t_310, f_311, e_312, u_313, w_314⟩, ⟨k_315, c9_316, t_317, f_318, e_319, u_320, w_321⟩⟩ : RS ρ ws_264 ty_265 rd krd tp ktp cd bb tl)⟩, hS.F ht⟩) hS.2.2 dX4_readTest_110
          refine lv_if_ne (tgt := 111) hx hb dX4_readTest_106 (by decide) (fun c_323 => ?_) (fun c_323 => absurd c_323 (by decide))
          refine lv_aload_n hx hb dX4_readTest_111 rfl (lv_at hl 2 rfl) ?_
          refine lv_iload_n hx hb dX4_readTest_112 rfl (lv_at hl 1 rfl) ?_
          refine lv_iload_n hx hb dX4_readTest_113 rfl (lv_at hl 0 rfl) ?_
          refine lv_aload_n hx hb dX4_readTest_114 rfl (lv_at hl 2 rfl) ?_
          refine va_get (D := D) (ci := 4) (v := .int re_298) (C := RX4) (T := TX4) (N := 8) hx hb hts hin4 hown hK hP krd er_304 rfl 7 (by decide) (hts (.fieldLink RX4 56 "HoneyHouse$RuleReader" "value" "I") (List.mem_of_getElem? (i := 2) rfl)) (fun _ h9 => h9) rfl dX4_readTest_115 ?_
          refine vp_callSi (W.runS (As := [.int z_140, .int 0, .int re_298]) (rest := [.ref rd]) ⟨hx, hb, hml, hown, hts⟩ (s_testCode l z_140 0 re_298) (va_cwS 3 hts gX4_readTest_X4_testCode rfl rfl rfl (by decide +kernel) ⟨Nat.le_of_ble_eq_true rfl, Nat.le_of_ble_eq_true rfl⟩) ⟨fun a U g mk q => q, fun U hU hW => ⟨rfl, trivial⟩⟩ rfl rfl hl.1 rfl (lv_room (Nat.le_of_ble_eq_true rfl)) dX4_readTest_118 ⟨Nat.le_of_ble_eq_true rfl, Nat.le_of_ble_eq_true rfl⟩) (fun r_324 k_325 => ?_)
          have hFc := free_all hD hS hA
          refine va_callv (va_runV (As := [.int r_324]) (rest := []) ⟨hx, hb, hml, hown, hts⟩ (r_addCode l D ρ ws_264 ty_265 adK adV fo rd krd tp ktp cd bb tl r_324 H.size (⟨ts_291, te_292, cc_293, ra_294, rb_295, rc_296, rv_297, re_298, ya_299, by omega, by omega, by omega, by omega, er_304, et_305, wr_306, wt_307, ⟨k_308, c9_309, t_310, f_311, e_312, u_313, w_314⟩, ⟨k_315, c9_316, t_317, f_318, e_319, u_320, w_321⟩⟩ : RS ρ ws_264 ty_265 rd krd tp ktp cd bb tl)) (cwV 1 hts gX4_readTest_X4_addCode rfl rfl rfl (by decide +kernel) ⟨Nat.le_of_ble_eq_true rfl, Nat.le_of_ble_eq_true rfl⟩) ⟨fun a U g mk q => by obtain ⟨q0, q1, qP, qK, qD, qS⟩ := q; exact ⟨q0, q1, qP, va_K.moved (u := U) (U := U.calling g mk a) (Vm.Alike.refl U.vm) qK, qD, SZ.same rfl rfl qS⟩, va_recv hK hP (ci := 4) (q0 := krd) rfl er_304, fun U hU hW => ⟨rfl, by rw [hU], by rw [hU]; exact hP, va_K.moved hW.alike hK, hD.weaken (fun _ _ _ _ => trivial), hsz9.go hS hW hU hFc⟩⟩ rfl rfl hl.1 rfl (lv_room (Nat.le_of_ble_eq_true rfl)) dX4_readTest_121 ⟨Nat.le_of_ble_eq_true rfl, Nat.le_of_ble_eq_true rfl⟩) hS (fun q _ h => hFc q h) hFc (fun u t H1 locs ht hvm w_327 hB hz1 hk1 hS => ?_)
          obtain ⟨ws_328, ty_329, hm_330, ht_332, hP1, hK1, hD1, hx_331⟩ := hB
          rw [ht] at hP1
          have hK := va_K.moved hvm.symm hK1
          have hD := hD1.weaken (fun _ _ _ h => hFc _ h)
          generalize H1 = H at hP1 hS ⊢
          have hP := hP1
          obtain ⟨g_334, e_333, h_335⟩ := hm_330.obj er_304
          obtain ⟨z_336, z_337, z_338, z_339, z_340, z_341, rfl⟩ := smX4 h_335
          obtain ⟨g_343, e_342, h_344⟩ := hm_330.obj et_305
          obtain ⟨z_345, z_346, z_347, z_348, rfl⟩ := smX6 h_344
          obtain ⟨f_350, e_349⟩ := hm_330.arrI e_312
          have u_351 := ht_332 _ _ u_313
          obtain ⟨f_353, e_352⟩ := hm_330.arrI e_319
          have u_354 := ht_332 _ _ u_320
          have hsm := hsm.tr (hm_330.mono (by decide))
          have htx := htx.tr ht_332
          obtain ⟨ts_355, te_356, cc_357, ra_358, rb_359, rc_360, rv_361, re_362, ya_363, h1_364, h2_365, h3_366, h4_367, er_368, et_369, wr_370, wt_371, ⟨k_372, c9_373, t_374, f_375, e_376, u_377, w_378⟩, ⟨k_379, c9_380, t_381, f_382, e_383, u_384, w_385⟩⟩ := id hx_331
          refine lv_iconst (v := 1) hx hb dX4_readTest_124 (by decide) ?_
          exact W.zret (v := 1) hx hb hr rfl (fun t ht hW => ⟨⟨1, (), rfl, Or.inr rfl, ws_328, ty_329, hsm, htx, by rw [ht]; exact hP, va_K.moved hW.alike hK, hD, (⟨ts_355, te_356, cc_357, ra_358, rb_359, rc_360, rv_361, re_362, ya_363, by omega, by omega, by omega, by omega, er_368, et_369, wr_370, wt_371, ⟨k_372, c9_373, t_374, f_375, e_376, u_377, w_378⟩, ⟨k_379, c9_380, t_381, f_382, e_383, u_384, w_385⟩⟩ : RS ρ ws_328 ty_329 rd krd tp ktp cd bb tl)⟩, hS.F ht⟩) hS.2.2 dX4_readTest_125
        refine lv_istore_n (lv' := [(2, .int 1), (1, .int z_140), (0, .ref rd)]) hx hb dX4_readTest_70 rfl hl (by decide) rfl (fun ls hl => ?_)
        refine lv_iload_n hx hb dX4_readTest_71 rfl (lv_at hl 0 rfl) ?_
        refine lv_if_ne (tgt := 92) hx hb dX4_readTest_72 (by decide) (fun c_386 => ?_) (fun c_386 => absurd c_386 (by decide))
        refine lv_aload_n hx hb dX4_readTest_92 rfl (lv_at hl 2 rfl) ?_
        refine va_get (D := D) (ci := 4) (v := .ref tp) (C := RX4) (T := TX4) (N := 8) hx hb hts hin4 hown hK hP krd e_148 rfl 0 (by decide) (hts (.fieldLink RX4 12 "HoneyHouse$RuleReader" "tape" "LHoneyHouse$Tape;") (List.mem_of_getElem? (i := 1) rfl)) (fun _ h9 => h9) rfl dX4_readTest_93 ?_
        have hFc := free_all hD hS hA
        refine va_callv (va_runV (As := []) (rest := []) ⟨hx, hb, hml, hown, hts⟩ (a_advance l D ρ ws_143 ty_144 tp ktp tl te_108 ya_115 (nI ts_107) bb k_131 c9_132 t_133 f_154 H.size (by omega) (by omega) e_149 e_153 u_155 wt_123) (cwV 0 hts gX4_readTest_X6_advance rfl rfl rfl (by decide +kernel) ⟨Nat.le_of_ble_eq_true rfl, Nat.le_of_ble_eq_true rfl⟩) ⟨fun a U g mk q => by obtain ⟨q0, q1, qP, qK, qD⟩ := q; exact ⟨q0, q1, qP, va_K.moved (u := U) (U := U.calling g mk a) (Vm.Alike.refl U.vm) qK, qD⟩, va_recv hK hP (ci := 6) (q0 := ktp) rfl e_149, fun U hU hW => ⟨rfl, by rw [hU], by rw [hU]; exact hP, va_K.moved hW.alike hK, hD.weaken (fun _ _ _ _ => trivial)⟩⟩ rfl rfl hl.1 rfl (lv_room (Nat.le_of_ble_eq_true rfl)) dX4_readTest_96 ⟨Nat.le_of_ble_eq_true rfl, Nat.le_of_ble_eq_true rfl⟩) hS (fun q _ h => hFc q h) hFc (fun u t H1 locs ht hvm w_388 hB hz1 hk1 hS => ?_)
        obtain ⟨ws_389, ty_390, hm_391, ht_393, hP1, hK1, hD1, hx_392⟩ := hB
        rw [ht] at hP1
        have hK := va_K.moved hvm.symm hK1
        have hD := hD1.weaken (fun _ _ _ h => hFc _ h)
        generalize H1 = H at hP1 hS ⊢
        have hP := hP1
        have e_394 := hm_391.objK e_148 (by decide)
        obtain ⟨g_396, e_395, h_397⟩ := hm_391.obj e_149
        obtain ⟨z_398, z_399, z_400, z_401, rfl⟩ := smX6 h_397
        obtain ⟨f_403, e_402⟩ := hm_391.arrI e_150
        have u_404 := ht_393 _ _ u_152
        obtain ⟨f_406, e_405⟩ := hm_391.arrI e_153
        have u_407 := ht_393 _ _ u_155
        have hsm := hsm.tr (hm_391.mono (by decide))
        have htx := htx.tr ht_393
        obtain ⟨k_408, s_409, e_410, h_411, h_412, h_413, e_414⟩ := hx_392
        refine lv_aload_n hx hb dX4_readTest_99 rfl (lv_at hl 2 rfl) ?_
        refine lv_sipush (v := 1000) hx hb dX4_readTest_100 (by decide) ?_
        have hFc := free_all hD hS hA
        refine va_calli (va_runV (As := [.int 1000]) (rest := []) ⟨hx, hb, hml, hown, hts⟩ (r_readNumber l D ρ ws_389 ty_390 adK adV fo rd krd tp ktp cd bb tl 1000 H.size (⟨s_409, e_410, cc_109, ra_110, rb_111, rc_112, rv_113, re_114, nI k_408, by omega, by omega, by omega, by omega, e_394, e_414, wr_122, wt_123, ⟨k_124, c9_125, t_126, f_403, e_402, u_404, w_130⟩, ⟨k_131, c9_132, t_133, f_406, e_405, u_407, w_137⟩⟩ : RS ρ ws_389 ty_390 rd krd tp ktp cd bb tl)) (cwV 1 hts gX4_readTest_X4_readNumber rfl rfl rfl (by decide +kernel) ⟨Nat.le_of_ble_eq_true rfl, Nat.le_of_ble_eq_true rfl⟩) ⟨fun a U g mk q => by obtain ⟨q0, q1, qP, qK, qD, qS⟩ := q; exact ⟨q0, q1, qP, va_K.moved (u := U) (U := U.calling g mk a) (Vm.Alike.refl U.vm) qK, qD, SZ.same rfl rfl qS⟩, va_recv hK hP (ci := 4) (q0 := krd) rfl e_394, fun U hU hW => ⟨rfl, by rw [hU], by rw [hU]; exact hP, va_K.moved hW.alike hK, hD.weaken (fun _ _ _ _ => trivial), hsz9.go hS hW hU hFc⟩⟩ rfl rfl hl.1 rfl (lv_room (Nat.le_of_ble_eq_true rfl)) dX4_readTest_103 ⟨Nat.le_of_ble_eq_true rfl, Nat.le_of_ble_eq_true rfl⟩) hS (fun q _ h => hFc q h) hFc (fun r_415 u t H1 locs ht hvm w_416 hB hz1 hk1 hS => ?_)
        obtain ⟨ws_417, ty_418, hm_419, ht_421, hP1, hK1, hD1, hx_420⟩ := hB
        rw [ht] at hP1
        have hK := va_K.moved hvm.symm hK1
        have hD := hD1.weaken (fun _ _ _ h => hFc _ h)
        generalize H1 = H at hP1 hS ⊢
        have hP := hP1
        obtain ⟨g_423, e_422, h_424⟩ := hm_419.obj e_394
        obtain ⟨z_425, z_426, z_427, z_428, z_429, z_430, rfl⟩ := smX4 h_424
        obtain ⟨g_432, e_431, h_433⟩ := hm_419.obj e_414
        obtain ⟨z_434, z_435, z_436, z_437, rfl⟩ := smX6 h_433
        obtain ⟨f_439, e_438⟩ := hm_419.arrI e_402
        have u_440 := ht_421 _ _ u_404
        obtain ⟨f_442, e_441⟩ := hm_419.arrI e_405
        have u_443 := ht_421 _ _ u_407
        have hsm := hsm.tr (hm_419.mono (by decide))
        have htx := htx.tr ht_421
        obtain ⟨ts_444, te_445, cc_446, ra_447, rb_448, rc_449, rv_450, re_451, ya_452, h1_453, h2_454, h3_455, h4_456, er_457, et_458, wr_459, wt_460, ⟨k_461, c9_462, t_463, f_464, e_465, u_466, w_467⟩, ⟨k_468, c9_469, t_470, f_471, e_472, u_473, w_474⟩⟩ := id hx_420
        rcases w_416 with rfl | rfl
        · refine lv_if_ne (tgt := 111) hx hb dX4_readTest_106 (by decide) (fun c_475 => absurd (by decide) c_475) (fun c_475 => ?_)
          refine lv_iconst (v := 0) hx hb dX4_readTest_109 (by decide) ?_
          exact W.zret (v := 0) hx hb hr rfl (fun t ht hW => ⟨⟨0, (), rfl, Or.inl rfl, ws_417, ty_418, hsm, htx, by rw [ht]; exact hP, va_K.moved hW.alike hK, hD, (⟨ts_444, te_445, cc_446, ra_447, rb_448, rc_449, rv_450, re_451, ya_452, by omega, by omega, by omega, by omega, er_457, et_458, wr_459, wt_460, ⟨k_461, c9_462, t_463, f_464, e_465, u_466, w_467⟩, ⟨k_468, c9_469, t_470, f_471, e_472, u_473, w_474⟩⟩ : RS ρ ws_417 ty_418 rd krd tp ktp cd bb tl)⟩, hS.F ht⟩) hS.2.2 dX4_readTest_110
        refine lv_if_ne (tgt := 111) hx hb dX4_readTest_106 (by decide) (fun c_476 => ?_) (fun c_476 => absurd c_476 (by decide))
        refine lv_aload_n hx hb dX4_readTest_111 rfl (lv_at hl 2 rfl) ?_
        refine lv_iload_n hx hb dX4_readTest_112 rfl (lv_at hl 1 rfl) ?_
        refine lv_iload_n hx hb dX4_readTest_113 rfl (lv_at hl 0 rfl) ?_
        refine lv_aload_n hx hb dX4_readTest_114 rfl (lv_at hl 2 rfl) ?_
        refine va_get (D := D) (ci := 4) (v := .int re_451) (C := RX4) (T := TX4) (N := 8) hx hb hts hin4 hown hK hP krd er_457 rfl 7 (by decide) (hts (.fieldLink RX4 56 "HoneyHouse$RuleReader" "value" "I") (List.mem_of_getElem? (i := 2) rfl)) (fun _ h9 => h9) rfl dX4_readTest_115 ?_
        refine vp_callSi (W.runS (As := [.int z_140, .int 1, .int re_451]) (rest := [.ref rd]) ⟨hx, hb, hml, hown, hts⟩ (s_testCode l z_140 1 re_451) (va_cwS 3 hts gX4_readTest_X4_testCode rfl rfl rfl (by decide +kernel) ⟨Nat.le_of_ble_eq_true rfl, Nat.le_of_ble_eq_true rfl⟩) ⟨fun a U g mk q => q, fun U hU hW => ⟨rfl, trivial⟩⟩ rfl rfl hl.1 rfl (lv_room (Nat.le_of_ble_eq_true rfl)) dX4_readTest_118 ⟨Nat.le_of_ble_eq_true rfl, Nat.le_of_ble_eq_true rfl⟩) (fun r_477 k_478 => ?_)
        have hFc := free_all hD hS hA
        refine va_callv (va_runV (As := [.int r_477]) (rest := []) ⟨hx, hb, hml, hown, hts⟩ (r_addCode l D ρ ws_417 ty_418 adK adV fo rd krd tp ktp cd bb tl r_477 H.size (⟨ts_444, te_445, cc_446, ra_447, rb_448, rc_449, rv_450, re_451, ya_452, by omega, by omega, by omega, by omega, er_457, et_458, wr_459, wt_460, ⟨k_461, c9_462, t_463, f_464, e_465, u_466, w_467⟩, ⟨k_468, c9_469, t_470, f_471, e_472, u_473, w_474⟩⟩ : RS ρ ws_417 ty_418 rd krd tp ktp cd bb tl)) (cwV 1 hts gX4_readTest_X4_addCode rfl rfl rfl (by decide +kernel) ⟨Nat.le_of_ble_eq_true rfl, Nat.le_of_ble_eq_true rfl⟩) ⟨fun a U g mk q => by obtain ⟨q0, q1, qP, qK, qD, qS⟩ := q; exact ⟨q0, q1, qP, va_K.moved (u := U) (U := U.calling g mk a) (Vm.Alike.refl U.vm) qK, qD, SZ.same rfl rfl qS⟩, va_recv hK hP (ci := 4) (q0 := krd) rfl er_457, fun U hU hW => ⟨rfl, by rw [hU], by rw [hU]; exact hP, va_K.moved hW.alike hK, hD.weaken (fun _ _ _ _ => trivial), hsz9.go hS hW hU hFc⟩⟩ rfl rfl hl.1 rfl (lv_room (Nat.le_of_ble_eq_true rfl)) dX4_readTest_121 ⟨Nat.le_of_ble_eq_true rfl, Nat.le_of_ble_eq_true rfl⟩) hS (fun q _ h => hFc q h) hFc (fun u t H1 locs ht hvm w_480 hB hz1 hk1 hS => ?_)
        obtain ⟨ws_481, ty_482, hm_483, ht_485, hP1, hK1, hD1, hx_484⟩ := hB
        rw [ht] at hP1
        have hK := va_K.moved hvm.symm hK1
        have hD := hD1.weaken (fun _ _ _ h => hFc _ h)
        generalize H1 = H at hP1 hS ⊢
        have hP := hP1
        obtain ⟨g_487, e_486, h_488⟩ := hm_483.obj er_457
        obtain ⟨z_489, z_490, z_491, z_492, z_493, z_494, rfl⟩ := smX4 h_488
        obtain ⟨g_496, e_495, h_497⟩ := hm_483.obj et_458
        obtain ⟨z_498, z_499, z_500, z_501, rfl⟩ := smX6 h_497
        obtain ⟨f_503, e_502⟩ := hm_483.arrI e_465
        have u_504 := ht_485 _ _ u_466
        obtain ⟨f_506, e_505⟩ := hm_483.arrI e_472
        have u_507 := ht_485 _ _ u_473
        have hsm := hsm.tr (hm_483.mono (by decide))
        have htx := htx.tr ht_485
        obtain ⟨ts_508, te_509, cc_510, ra_511, rb_512, rc_513, rv_514, re_515, ya_516, h1_517, h2_518, h3_519, h4_520, er_521, et_522, wr_523, wt_524, ⟨k_525, c9_526, t_527, f_528, e_529, u_530, w_531⟩, ⟨k_532, c9_533, t_534, f_535, e_536, u_537, w_538⟩⟩ := id hx_484
        refine lv_iconst (v := 1) hx hb dX4_readTest_124 (by decide) ?_
        exact W.zret (v := 1) hx hb hr rfl (fun t ht hW => ⟨⟨1, (), rfl, Or.inr rfl, ws_481, ty_482, hsm, htx, by rw [ht]; exact hP, va_K.moved hW.alike hK, hD, (⟨ts_508, te_509, cc_510, ra_511, rb_512, rc_513, rv_514, re_515, ya_516, by omega, by omega, by omega, by omega, er_521, et_522, wr_523, wt_524, ⟨k_525, c9_526, t_527, f_528, e_529, u_530, w_531⟩, ⟨k_532, c9_533, t_534, f_535, e_536, u_537, w_538⟩⟩ : RS ρ ws_481 ty_482 rd krd tp ktp cd bb tl)⟩, hS.F ht⟩) hS.2.2 dX4_readTest_125
      refine lv_iconst (v := 3) hx hb dX4_readTest_41 (by decide) ?_
      refine lv_goto (tgt := 46) hx hb dX4_readTest_42 (by decide) ?_
      have hFc := free_all hD hS hA
      refine va_calli (va_runV (As := [.int 3]) (rest := []) ⟨hx, hb, hml, hown, hts⟩ (r_readNumber l D ρ ws_50 ty_51 adK adV fo rd krd tp ktp cd bb tl 3 H.size (⟨s_70, e_71, cc_3, ra_4, rb_5, rc_6, rv_7, re_8, nI k_69, by omega, by omega, by omega, by omega, e_55, e_75, wr_16, wt_17, ⟨k_18, c9_19, t_20, f_64, e_63, u_65, w_24⟩, ⟨k_25, c9_26, t_27, f_67, e_66, u_68, w_31⟩⟩ : RS ρ ws_50 ty_51 rd krd tp ktp cd bb tl)) (cwV 1 hts gX4_readTest_X4_readNumber rfl rfl rfl (by decide +kernel) ⟨Nat.le_of_ble_eq_true rfl, Nat.le_of_ble_eq_true rfl⟩) ⟨fun a U g mk q => by obtain ⟨q0, q1, qP, qK, qD, qS⟩ := q; exact ⟨q0, q1, qP, va_K.moved (u := U) (U := U.calling g mk a) (Vm.Alike.refl U.vm) qK, qD, SZ.same rfl rfl qS⟩, va_recv hK hP (ci := 4) (q0 := krd) rfl e_55, fun U hU hW => ⟨rfl, by rw [hU], by rw [hU]; exact hP, va_K.moved hW.alike hK, hD.weaken (fun _ _ _ _ => trivial), hsz9.go hS hW hU hFc⟩⟩ rfl rfl hl.1 rfl (lv_room (Nat.le_of_ble_eq_true rfl)) dX4_readTest_46 ⟨Nat.le_of_ble_eq_true rfl, Nat.le_of_ble_eq_true rfl⟩) hS (fun q _ h => hFc q h) hFc (fun r_539 u t H1 locs ht hvm w_540 hB hz1 hk1 hS => ?_)
      obtain ⟨ws_541, ty_542, hm_543, ht_545, hP1, hK1, hD1, hx_544⟩ := hB
      rw [ht] at hP1
      have hK := va_K.moved hvm.symm hK1
      have hD := hD1.weaken (fun _ _ _ h => hFc _ h)
      generalize H1 = H at hP1 hS ⊢
      have hP := hP1
      obtain ⟨g_547, e_546, h_548⟩ := hm_543.obj e_55
      obtain ⟨z_549, z_550, z_551, z_552, z_553, z_554, rfl⟩ := smX4 h_548
      obtain ⟨g_556, e_555, h_557⟩ := hm_543.obj e_75
      obtain ⟨z_558, z_559, z_560, z_561, rfl⟩ := smX6 h_557
      obtain ⟨f_563, e_562⟩ := hm_543.arrI e_63
      have u_564 := ht_545 _ _ u_65
      obtain ⟨f_566, e_565⟩ := hm_543.arrI e_66
      have u_567 := ht_545 _ _ u_68
      have hsm := hsm.tr (hm_543.mono (by decide))
      have htx := htx.tr ht_545
      obtain ⟨ts_568, te_569, cc_570, ra_571, rb_572, rc_573, rv_574, re_575, ya_576, h1_577, h2_578, h3_579, h4_580, er_581, et_582, wr_583, wt_584, ⟨k_585, c9_586, t_587, f_588, e_589, u_590, w_591⟩, ⟨k_592, c9_593, t_594, f_595, e_596, u_597, w_598⟩⟩ := id hx_544
      rcases w_540 with rfl | rfl
      · refine lv_if_ne (tgt := 54) hx hb dX4_readTest_49 (by decide) (fun c_599 => absurd (by decide) c_599) (fun c_599 => ?_)
        refine lv_iconst (v := 0) hx hb dX4_readTest_52 (by decide) ?_
        exact W.zret (v := 0) hx hb hr rfl (fun t ht hW => ⟨⟨0, (), rfl, Or.inl rfl, ws_541, ty_542, hsm, htx, by rw [ht]; exact hP, va_K.moved hW.alike hK, hD, (⟨ts_568, te_569, cc_570, ra_571, rb_572, rc_573, rv_574, re_575, ya_576, by omega, by omega, by omega, by omega, er_581, et_582, wr_583, wt_584, ⟨k_585, c9_586, t_587, f_588, e_589, u_590, w_591⟩, ⟨k_592, c9_593, t_594, f_595, e_596, u_597, w_598⟩⟩ : RS ρ ws_541 ty_542 rd krd tp ktp cd bb tl)⟩, hS.F ht⟩) hS.2.2 dX4_readTest_53
      refine lv_if_ne (tgt := 54) hx hb dX4_readTest_49 (by decide) (fun c_600 => ?_) (fun c_600 => absurd c_600 (by decide))
      refine lv_iload_n hx hb dX4_readTest_54 rfl (lv_at hl 0 rfl) ?_
      refine lv_aload_n hx hb dX4_readTest_55 rfl (lv_at hl 1 rfl) ?_
      refine va_get (D := D) (ci := 4) (v := .int re_575) (C := RX4) (T := TX4) (N := 8) hx hb hts hin4 hown hK hP krd er_581 rfl 7 (by decide) (hts (.fieldLink RX4 56 "HoneyHouse$RuleReader" "value" "I") (List.mem_of_getElem? (i := 2) rfl)) (fun _ h9 => h9) rfl dX4_readTest_56 ?_
      refine lv_iadd hx hb dX4_readTest_59 ?_
      refine lv_topi (fun z_601 _ => ?_)
      refine lv_istore_n (lv' := [(1, .int z_601), (0, .ref rd)]) hx hb dX4_readTest_60 rfl hl (by decide) rfl (fun ls hl => ?_)
      refine lv_aload_n hx hb dX4_readTest_61 rfl (lv_at hl 1 rfl) ?_
      refine va_get (D := D) (ci := 4) (v := .ref tp) (C := RX4) (T := TX4) (N := 8) hx hb hts hin4 hown hK hP krd er_581 rfl 0 (by decide) (hts (.fieldLink RX4 12 "HoneyHouse$RuleReader" "tape" "LHoneyHouse$Tape;") (List.mem_of_getElem? (i := 1) rfl)) (fun _ h9 => h9) rfl dX4_readTest_62 ?_
      refine va_ldcS hx hb hown hsz9.2.2.2.2.2.2.2.2.1 dX4_readTest_65 ?_
      have hFc := free_all hD hS hA
      refine va_calli (va_runV (As := [.ref (adK 5)]) (rest := []) ⟨hx, hb, hml, hown, hts⟩ (a_isWord l D ρ ws_541 ty_542 adK adV fo 5 tp ktp tl ya_576 (nI ts_568) (nI te_569) bb k_592 c9_593 t_594 f_595 H.size (by decide) et_582 e_596 u_597) (cwV 1 hts gX4_readTest_X6_isWord rfl rfl rfl (by decide +kernel) ⟨Nat.le_of_ble_eq_true rfl, Nat.le_of_ble_eq_true rfl⟩) ⟨fun a U g mk q => by obtain ⟨q0, q1, qP, qK, qD, qS⟩ := q; exact ⟨q0, q1, qP, va_K.moved (u := U) (U := U.calling g mk a) (Vm.Alike.refl U.vm) qK, qD, SZ.same rfl rfl qS⟩, va_recv hK hP (ci := 6) (q0 := ktp) rfl et_582, fun U hU hW => ⟨rfl, by rw [hU], by rw [hU]; exact hP, va_K.moved hW.alike hK, hD.weaken (fun _ _ _ _ => trivial), hsz9.go hS hW hU hFc⟩⟩ rfl rfl hl.1 rfl (lv_room (Nat.le_of_ble_eq_true rfl)) dX4_readTest_67 ⟨Nat.le_of_ble_eq_true rfl, Nat.le_of_ble_eq_true rfl⟩) hS (fun q _ h => hFc q h) hFc (fun r_602 u t H1 locs ht hvm w_603 hB hz1 hk1 hS => ?_)
      obtain ⟨ws_604, ty_605, hm_606, ht_608, hP1, hK1, hD1, hx_607⟩ := hB
      rw [ht] at hP1
      have hK := va_K.moved hvm.symm hK1
      have hD := hD1.weaken (fun _ _ _ h => hFc _ h)
      generalize H1 = H at hP1 hS ⊢
      have hP := hP1
      have e_609 := hm_606.objK er_581 (by decide)
      have e_610 := hm_606.objK et_582 (by decide)
      obtain ⟨f_612, e_611⟩ := hm_606.arrI e_589
      have u_613 := ht_608 _ _ u_590
      obtain ⟨f_615, e_614⟩ := hm_606.arrI e_596
      have u_616 := ht_608 _ _ u_597
      have hsm := hsm.tr (hm_606.mono (by decide))
      have htx := htx.tr ht_608
      rcases w_603 with rfl | rfl
      · refine lv_istore_n (lv' := [(2, .int 0), (1, .int z_601), (0, .ref rd)]) hx hb dX4_readTest_70 rfl hl (by decide) rfl (fun ls hl => ?_)
        refine lv_iload_n hx hb dX4_readTest_71 rfl (lv_at hl 0 rfl) ?_
        refine lv_if_ne (tgt := 92) hx hb dX4_readTest_72 (by decide) (fun c_617 => absurd (by decide) c_617) (fun c_617 => ?_)
        refine lv_aload_n hx hb dX4_readTest_75 rfl (lv_at hl 2 rfl) ?_
        refine va_get (D := D) (ci := 4) (v := .ref tp) (C := RX4) (T := TX4) (N := 8) hx hb hts hin4 hown hK hP krd e_609 rfl 0 (by decide) (hts (.fieldLink RX4 12 "HoneyHouse$RuleReader" "tape" "LHoneyHouse$Tape;") (List.mem_of_getElem? (i := 1) rfl)) (fun _ h9 => h9) rfl dX4_readTest_76 ?_
        refine va_ldcS hx hb hown hsz9.2.2.2.2.2.2.2.1 dX4_readTest_79 ?_
        have hFc := free_all hD hS hA
        refine va_calli (va_runV (As := [.ref (adK 4)]) (rest := []) ⟨hx, hb, hml, hown, hts⟩ (a_isWord l D ρ ws_604 ty_605 adK adV fo 4 tp ktp tl ya_576 (nI ts_568) (nI te_569) bb k_592 c9_593 t_594 f_615 H.size (by decide) e_610 e_614 u_616) (cwV 1 hts gX4_readTest_X6_isWord rfl rfl rfl (by decide +kernel) ⟨Nat.le_of_ble_eq_true rfl, Nat.le_of_ble_eq_true rfl⟩) ⟨fun a U g mk q => by obtain ⟨q0, q1, qP, qK, qD, qS⟩ := q; exact ⟨q0, q1, qP, va_K.moved (u := U) (U := U.calling g mk a) (Vm.Alike.refl U.vm) qK, qD, SZ.same rfl rfl qS⟩, va_recv hK hP (ci := 6) (q0 := ktp) rfl e_610, fun U hU hW => ⟨rfl, by rw [hU], by rw [hU]; exact hP, va_K.moved hW.alike hK, hD.weaken (fun _ _ _ _ => trivial), hsz9.go hS hW hU hFc⟩⟩ rfl rfl hl.1 rfl (lv_room (Nat.le_of_ble_eq_true rfl)) dX4_readTest_81 ⟨Nat.le_of_ble_eq_true rfl, Nat.le_of_ble_eq_true rfl⟩) hS (fun q _ h => hFc q h) hFc (fun r_618 u t H1 locs ht hvm w_619 hB hz1 hk1 hS => ?_)
        obtain ⟨ws_620, ty_621, hm_622, ht_624, hP1, hK1, hD1, hx_623⟩ := hB
        rw [ht] at hP1
        have hK := va_K.moved hvm.symm hK1
        have hD := hD1.weaken (fun _ _ _ h => hFc _ h)
        generalize H1 = H at hP1 hS ⊢
        have hP := hP1
        have e_625 := hm_622.objK e_609 (by decide)
        have e_626 := hm_622.objK e_610 (by decide)
        obtain ⟨f_628, e_627⟩ := hm_622.arrI e_611
        have u_629 := ht_624 _ _ u_613
        obtain ⟨f_631, e_630⟩ := hm_622.arrI e_614
        have u_632 := ht_624 _ _ u_616
        have hsm := hsm.tr (hm_622.mono (by decide))
        have htx := htx.tr ht_624
        rcases w_619 with rfl | rfl
        · refine lv_if_ne (tgt := 92) hx hb dX4_readTest_84 (by decide) (fun c_633 => absurd (by decide) c_633) (fun c_633 => ?_)
          refine lv_aload_n hx hb dX4_readTest_87 rfl (lv_at hl 2 rfl) ?_
          have hFc := free_all hD hS hA
          refine va_calli (va_runV (As := []) (rest := []) ⟨hx, hb, hml, hown, hts⟩ (r_failHere l D ρ ws_620 ty_621 adK adV fo rd krd tp ktp cd bb tl  H.size (⟨ts_568, te_569, cc_570, ra_571, rb_572, rc_573, rv_574, re_575, ya_576, by omega, by omega, by omega, by omega, e_625, e_626, wr_583, wt_584, ⟨k_585, c9_586, t_587, f_628, e_627, u_629, w_591⟩, ⟨k_592, c9_593, t_594, f_631, e_630, u_632, w_598⟩⟩ : RS ρ ws_620 ty_621 rd krd tp ktp cd bb tl)) (cwV 0 hts gX4_readTest_X4_failHere rfl rfl rfl (by decide +kernel) ⟨Nat.le_of_ble_eq_true rfl, Nat.le_of_ble_eq_true rfl⟩) ⟨fun a U g mk q => by obtain ⟨q0, q1, qP, qK, qD, qS⟩ := q; exact ⟨q0, q1, qP, va_K.moved (u := U) (U := U.calling g mk a) (Vm.Alike.refl U.vm) qK, qD, SZ.same rfl rfl qS⟩, va_recv hK hP (ci := 4) (q0 := krd) rfl e_625, fun U hU hW => ⟨rfl, by rw [hU], by rw [hU]; exact hP, va_K.moved hW.alike hK, hD.weaken (fun _ _ _ _ => trivial), hsz9.go hS hW hU hFc⟩⟩ rfl rfl hl.1 rfl (lv_room (Nat.le_of_ble_eq_true rfl)) dX4_readTest_88 ⟨Nat.le_of_ble_eq_true rfl, Nat.le_of_ble_eq_true rfl⟩) hS (fun q _ h => hFc q h) hFc (fun r_634 u t H1 locs ht hvm w_635 hB hz1 hk1 hS => ?_)
          obtain ⟨ws_636, ty_637, hm_638, ht_640, hP1, hK1, hD1, hx_639⟩ := hB
          rw [ht] at hP1
          have hK := va_K.moved hvm.symm hK1
          have hD := hD1.weaken (fun _ _ _ h => hFc _ h)
          generalize H1 = H at hP1 hS ⊢
          have hP := hP1
          obtain ⟨g_642, e_641, h_643⟩ := hm_638.obj e_625
          obtain ⟨z_644, z_645, z_646, z_647, z_648, z_649, rfl⟩ := smX4 h_643
          obtain ⟨g_651, e_650, h_652⟩ := hm_638.obj e_626
          obtain ⟨z_653, z_654, z_655, z_656, rfl⟩ := smX6 h_652
          obtain ⟨f_658, e_657⟩ := hm_638.arrI e_627
          have u_659 := ht_640 _ _ u_629
          obtain ⟨f_661, e_660⟩ := hm_638.arrI e_630
          have u_662 := ht_640 _ _ u_632
          have hsm := hsm.tr (hm_638.mono (by decide))
          have htx := htx.tr ht_640
          obtain ⟨ts_663, te_664, cc_665, ra_666, rb_667, rc_668, rv_669, re_670, ya_671, h1_672, h2_673, h3_674, h4_675, er_676, et_677, wr_678, wt_679, ⟨k_680, c9_681, t_682, f_683, e_684, u_685, w_686⟩, ⟨k_687, c9_688, t_689, f_690, e_691, u_692, w_693⟩⟩ := id hx_639
          subst w_635
          exact W.zret (v := 0) hx hb hr rfl (fun t ht hW => ⟨⟨0, (), rfl, Or.inl rfl, ws_636, ty_637, hsm, htx, by rw [ht]; exact hP, va_K.moved hW.alike hK, hD, (⟨ts_663, te_664, cc_665, ra_666, rb_667, rc_668, rv_669, re_670, ya_671, by omega, by omega, by omega, by omega, er_676, et_677, wr_678, wt_679, ⟨k_680, c9_681, t_682, f_683, e_684, u_685, w_686⟩, ⟨k_687, c9_688, t_689, f_690, e_691, u_692, w_693⟩⟩ : RS ρ ws_636 ty_637 rd krd tp ktp cd bb tl)⟩, hS.F ht⟩) hS.2.2 dX4_readTest_91
        refine lv_if_ne (tgt := 92) hx hb dX4_readTest_84 (by decide) (fun c_694 => ?_) (fun c_694 => absurd c_694 (by decide))
        refine lv_aload_n hx hb dX4_readTest_92 rfl (lv_at hl 2 rfl) ?_
        refine va_get (D := D) (ci := 4) (v := .ref tp) (C := RX4) (T := TX4) (N := 8) hx hb hts hin4 hown hK hP krd e_625 rfl 0 (by decide) (hts (.fieldLink RX4 12 "HoneyHouse$RuleReader" "tape" "LHoneyHouse$Tape;") (List.mem_of_getElem? (i := 1) rfl)) (fun _ h9 => h9) rfl dX4_readTest_93 ?_
        have hFc := free_all hD hS hA
        refine va_callv (va_runV (As := []) (rest := []) ⟨hx, hb, hml, hown, hts⟩ (a_advance l D ρ ws_620 ty_621 tp ktp tl te_569 ya_576 (nI ts_568) bb k_592 c9_593 t_594 f_631 H.size (by omega) (by omega) e_626 e_630 u_632 wt_584) (cwV 0 hts gX4_readTest_X6_advance rfl rfl rfl (by decide +kernel) ⟨Nat.le_of_ble_eq_true rfl, Nat.le_of_ble_eq_true rfl⟩) ⟨fun a U g mk q => by obtain ⟨q0, q1, qP, qK, qD⟩ := q; exact ⟨q0, q1, qP, va_K.moved (u := U) (U := U.calling g mk a) (Vm.Alike.refl U.vm) qK, qD⟩, va_recv hK hP (ci := 6) (q0 := ktp) rfl e_626, fun U hU hW => ⟨rfl, by rw [hU], by rw [hU]; exact hP, va_K.moved hW.alike hK, hD.weaken (fun _ _ _ _ => trivial)⟩⟩ rfl rfl hl.1 rfl (lv_room (Nat.le_of_ble_eq_true rfl)) dX4_readTest_96 ⟨Nat.le_of_ble_eq_true rfl, Nat.le_of_ble_eq_true rfl⟩) hS (fun q _ h => hFc q h) hFc (fun u t H1 locs ht hvm w_696 hB hz1 hk1 hS => ?_)
        obtain ⟨ws_697, ty_698, hm_699, ht_701, hP1, hK1, hD1, hx_700⟩ := hB
        rw [ht] at hP1
        have hK := va_K.moved hvm.symm hK1
        have hD := hD1.weaken (fun _ _ _ h => hFc _ h)
        generalize H1 = H at hP1 hS ⊢
        have hP := hP1
        have e_702 := hm_699.objK e_625 (by decide)
        obtain ⟨g_704, e_703, h_705⟩ := hm_699.obj e_626
        obtain ⟨z_706, z_707, z_708, z_709, rfl⟩ := smX6 h_705
        obtain ⟨f_711, e_710⟩ := hm_699.arrI e_627
        have u_712 := ht_701 _ _ u_629
        obtain ⟨f_714, e_713⟩ := hm_699.arrI e_630
        have u_715 := ht_701 _ _ u_632
        have hsm := hsm.tr (hm_699.mono (by decide))
        have htx := htx.tr ht_701
        obtain ⟨k_716, s_717, e_718, h_719, h_720, h_721, e_722⟩ := hx_700
        refine lv_aload_n hx hb dX4_readTest_99 rfl (lv_at hl 2 rfl) ?_
        refine lv_sipush (v := 1000) hx hb dX4_readTest_100 (by decide) ?_
        have hFc := free_all hD hS hA
        refine va_calli (va_runV (As := [.int 1000]) (rest := []) ⟨hx, hb, hml, hown, hts⟩ (r_readNumber l D ρ ws_697 ty_698 adK adV fo rd krd tp ktp cd bb tl 1000 H.size (⟨s_717, e_718, cc_570, ra_571, rb_572, rc_573, rv_574, re_575, nI k_716, by omega, by omega, by omega, by omega, e_702, e_722, wr_583, wt_584, ⟨k_585, c9_586, t_587, f_711, e_710, u_712, w_591⟩, ⟨k_592, c9_593, t_594, f_714, e_713, u_715, w_598⟩⟩ : RS ρ ws_697 ty_698 rd krd tp ktp cd bb tl)) (cwV 1 hts gX4_readTest_X4_readNumber rfl rfl rfl (by decide +kernel) ⟨Nat.le_of_ble_eq_true rfl, Nat.le_of_ble_eq_true rfl⟩) ⟨fun a U g mk q => by obtain ⟨q0, q1, qP, qK, qD, qS⟩ := q; exact ⟨q0, q1, qP, va_K.moved (u := U) (U := U.calling g mk a) (Vm.Alike.refl U.vm) qK, qD, SZ.same rfl rfl qS⟩, va_recv hK hP (ci := 4) (q0 := krd) rfl e_702, fun U hU hW => ⟨rfl, by rw [hU], by rw [hU]; exact hP, va_K.moved hW.alike hK, hD.weaken (fun _ _ _ _ => trivial), hsz9.go hS hW hU hFc⟩⟩ rfl rfl hl.1 rfl (lv_room (Nat.le_of_ble_eq_true rfl)) dX4_readTest_103 ⟨Nat.le_of_ble_eq_true rfl, Nat.le_of_ble_eq_true rfl⟩) hS (fun q _ h => hFc q h) hFc (fun r_723 u t H1 locs ht hvm w_724 hB hz1 hk1 hS => ?_)
        obtain ⟨ws_725, ty_726, hm_727, ht_729, hP1, hK1, hD1, hx_728⟩ := hB
        rw [ht] at hP1
        have hK := va_K.moved hvm.symm hK1
        have hD := hD1.weaken (fun _ _ _ h => hFc _ h)
        generalize H1 = H at hP1 hS ⊢
        have hP := hP1
        obtain ⟨g_731, e_730, h_732⟩ := hm_727.obj e_702
        obtain ⟨z_733, z_734, z_735, z_736, z_737, z_738, rfl⟩ := smX4 h_732
        obtain ⟨g_740, e_739, h_741⟩ := hm_727.obj e_722
        obtain ⟨z_742, z_743, z_744, z_745, rfl⟩ := smX6 h_741
        obtain ⟨f_747, e_746⟩ := hm_727.arrI e_710
        have u_748 := ht_729 _ _ u_712
        obtain ⟨f_750, e_749⟩ := hm_727.arrI e_713
        have u_751 := ht_729 _ _ u_715
        have hsm := hsm.tr (hm_727.mono (by decide))
        have htx := htx.tr ht_729
        obtain ⟨ts_752, te_753, cc_754, ra_755, rb_756, rc_757, rv_758, re_759, ya_760, h1_761, h2_762, h3_763, h4_764, er_765, et_766, wr_767, wt_768, ⟨k_769, c9_770, t_771, f_772, e_773, u_774, w_775⟩, ⟨k_776, c9_777, t_778, f_779, e_780, u_781, w_782⟩⟩ := id hx_728
        rcases w_724 with rfl | rfl
        · refine lv_if_ne (tgt := 111) hx hb dX4_readTest_106 (by decide) (fun c_783 => absurd (by decide) c_783) (fun c_783 => ?_)
          refine lv_iconst (v := 0) hx hb dX4_readTest_109 (by decide) ?_
          exact W.zret (v := 0) hx hb hr rfl (fun t ht hW => ⟨⟨0, (), rfl, Or.inl rfl, ws_725, ty_726, hsm, htx, by rw [ht]; exact hP, va_K.moved hW.alike hK, hD, (⟨ts_752, te_753, cc_754, ra_755, rb_756, rc_757, rv_758, re_759, ya_760, by omega, by omega, by omega, by omega, er_765, et_766, wr_767, wt_768, ⟨k_769, c9_770, t_771, f_772, e_773, u_774, w_775⟩, ⟨k_776, c9_777, t_778, f_779, e_780, u_781, w_782⟩⟩ : RS ρ ws_725 ty_726 rd krd tp ktp cd bb tl)⟩, hS.F ht⟩) hS.2.2 dX4_readTest_110
        refine lv_if_ne (tgt := 111) hx hb dX4_readTest_106 (by decide) (fun c_784 => ?_) (fun c_784 => absurd c_784 (by decide))
        refine lv_aload_n hx hb dX4_readTest_111 rfl (lv_at hl 2 rfl) ?_
        refine lv_iload_n hx hb dX4_readTest_112 rfl (lv_at hl 1 rfl) ?_
        refine lv_iload_n hx hb dX4_readTest_113 rfl (lv_at hl 0 rfl) ?_
        refine lv_aload_n hx hb dX4_readTest_114 rfl (lv_at hl 2 rfl) ?_
        refine va_get (D := D) (ci := 4) (v := .int re_759) (C := RX4) (T := TX4) (N := 8) hx hb hts hin4 hown hK hP krd er_765 rfl 7 (by decide) (hts (.fieldLink RX4 56 "HoneyHouse$RuleReader" "value" "I") (List.mem_of_getElem? (i := 2) rfl)) (fun _ h9 => h9) rfl dX4_readTest_115 ?_
        refine vp_callSi (W.runS (As := [.int z_601, .int 0, .int re_759]) (rest := [.ref rd]) ⟨hx, hb, hml, hown, hts⟩ (s_testCode l z_601 0 re_759) (va_cwS 3 hts gX4_readTest_X4_testCode rfl rfl rfl (by decide +kernel) ⟨Nat.le_of_ble_eq_true rfl, Nat.le_of_ble_eq_true rfl⟩) ⟨fun a U g mk q => q, fun U hU hW => ⟨rfl, trivial⟩⟩ rfl rfl hl.1 rfl (lv_room (Nat.le_of_ble_eq_true rfl)) dX4_readTest_118 ⟨Nat.le_of_ble_eq_true rfl, Nat.le_of_ble_eq_true rfl⟩) (fun r_785 k_786 => ?_)
        have hFc := free_all hD hS hA
        refine va_callv (va_runV (As := [.int r_785]) (rest := []) ⟨hx, hb, hml, hown, hts⟩ (r_addCode l D ρ ws_725 ty_726 adK adV fo rd krd tp ktp cd bb tl r_785 H.size (⟨ts_752, te_753, cc_754, ra_755, rb_756, rc_757, rv_758, re_759, ya_760, by omega, by omega, by omega, by omega, er_765, et_766, wr_767, wt_768, ⟨k_769, c9_770, t_771, f_772, e_773, u_774, w_775⟩, ⟨k_776, c9_777, t_778, f_779, e_780, u_781, w_782⟩⟩ : RS ρ ws_725 ty_726 rd krd tp ktp cd bb tl)) (cwV 1 hts gX4_readTest_X4_addCode rfl rfl rfl (by decide +kernel) ⟨Nat.le_of_ble_eq_true rfl, Nat.le_of_ble_eq_true rfl⟩) ⟨fun a U g mk q => by obtain ⟨q0, q1, qP, qK, qD, qS⟩ := q; exact ⟨q0, q1, qP, va_K.moved (u := U) (U := U.calling g mk a) (Vm.Alike.refl U.vm) qK, qD, SZ.same rfl rfl qS⟩, va_recv hK hP (ci := 4) (q0 := krd) rfl er_765, fun U hU hW => ⟨rfl, by rw [hU], by rw [hU]; exact hP, va_K.moved hW.alike hK, hD.weaken (fun _ _ _ _ => trivial), hsz9.go hS hW hU hFc⟩⟩ rfl rfl hl.1 rfl (lv_room (Nat.le_of_ble_eq_true rfl)) dX4_readTest_121 ⟨Nat.le_of_ble_eq_true rfl, Nat.le_of_ble_eq_true rfl⟩) hS (fun q _ h => hFc q h) hFc (fun u t H1 locs ht hvm w_788 hB hz1 hk1 hS => ?_)
        obtain ⟨ws_789, ty_790, hm_791, ht_793, hP1, hK1, hD1, hx_792⟩ := hB
        rw [ht] at hP1
        have hK := va_K.moved hvm.symm hK1
        have hD := hD1.weaken (fun _ _ _ h => hFc _ h)
        generalize H1 = H at hP1 hS ⊢
        have hP := hP1
        obtain ⟨g_795, e_794, h_796⟩ := hm_791.obj er_765
        obtain ⟨z_797, z_798, z_799, z_800, z_801, z_802, rfl⟩ := smX4 h_796
        obtain ⟨g_804, e_803, h_805⟩ := hm_791.obj et_766
        obtain ⟨z_806, z_807, z_808, z_809, rfl⟩ := smX6 h_805
        obtain ⟨f_811, e_810⟩ := hm_791.arrI e_773
        have u_812 := ht_793 _ _ u_774
        obtain ⟨f_814, e_813⟩ := hm_791.arrI e_780
        have u_815 := ht_793 _ _ u_781
        have hsm := hsm.tr (hm_791.mono (by decide))
        have htx := htx.tr ht_793
        obtain ⟨ts_816, te_817, cc_818, ra_819, rb_820, rc_821, rv_822, re_823, ya_824, h1_825, h2_826, h3_827, h4_828, er_829, et_830, wr_831, wt_832, ⟨k_833, c9_834, t_835, f_836, e_837, u_838, w_839⟩, ⟨k_840, c9_841, t_842, f_843, e_844, u_845, w_846⟩⟩ := id hx_792
        refine lv_iconst (v := 1) hx hb dX4_readTest_124 (by decide) ?_
        exact W.zret (v := 1) hx hb hr rfl (fun t ht hW => ⟨⟨1, (), rfl, Or.inr rfl, ws_789, ty_790, hsm, htx, by rw [ht]; exact hP, va_K.moved hW.alike hK, hD, (⟨ts_816, te_817, cc_818, ra_819, rb_820, rc_821, rv_822, re_823, ya_824, by omega, by omega, by omega, by omega, er_829, et_830, wr_831, wt_832, ⟨k_833, c9_834, t_835, f_836, e_837, u_838, w_839⟩, ⟨k_840, c9_841, t_842, f_843, e_844, u_845, w_846⟩⟩ : RS ρ ws_789 ty_790 rd krd tp ktp cd bb tl)⟩, hS.F ht⟩) hS.2.2 dX4_readTest_125
      refine lv_istore_n (lv' := [(2, .int 1), (1, .int z_601), (0, .ref rd)]) hx hb dX4_readTest_70 rfl hl (by decide) rfl (fun ls hl => ?_)
      refine lv_iload_n hx hb dX4_readTest_71 rfl (lv_at hl 0 rfl) ?_
      refine lv_if_ne (tgt := 92) hx hb dX4_readTest_72 (by decide) (fun c_847 => ?_) (fun c_847 => absurd c_847 (by decide))
      refine lv_aload_n hx hb dX4_readTest_92 rfl (lv_at hl 2 rfl) ?_
      refine va_get (D := D) (ci := 4) (v := .ref tp) (C := RX4) (T := TX4) (N := 8) hx hb hts hin4 hown hK hP krd e_609 rfl 0 (by decide) (hts (.fieldLink RX4 12 "HoneyHouse$RuleReader" "tape" "LHoneyHouse$Tape;") (List.mem_of_getElem? (i := 1) rfl)) (fun _ h9 => h9) rfl dX4_readTest_93 ?_
      have hFc := free_all hD hS hA
      refine va_callv (va_runV (As := []) (rest := []) ⟨hx, hb, hml, hown, hts⟩ (a_advance l D ρ ws_604 ty_605 tp ktp tl te_569 ya_576 (nI ts_568) bb k_592 c9_593 t_594 f_615 H.size (by omega) (by omega) e_610 e_614 u_616 wt_584) (cwV 0 hts gX4_readTest_X6_advance rfl rfl rfl (by decide +kernel) ⟨Nat.le_of_ble_eq_true rfl, Nat.le_of_ble_eq_true rfl⟩) ⟨fun a U g mk q => by obtain ⟨q0, q1, qP, qK, qD⟩ := q; exact ⟨q0, q1, qP, va_K.moved (u := U) (U := U.calling g mk a) (Vm.Alike.refl U.vm) qK, qD⟩, va_recv hK hP (ci := 6) (q0 := ktp) rfl e_610, fun U hU hW => ⟨rfl, by rw [hU], by rw [hU]; exact hP, va_K.moved hW.alike hK, hD.weaken (fun _ _ _ _ => trivial)⟩⟩ rfl rfl hl.1 rfl (lv_room (Nat.le_of_ble_eq_true rfl)) dX4_readTest_96 ⟨Nat.le_of_ble_eq_true rfl, Nat.le_of_ble_eq_true rfl⟩) hS (fun q _ h => hFc q h) hFc (fun u t H1 locs ht hvm w_849 hB hz1 hk1 hS => ?_)
      obtain ⟨ws_850, ty_851, hm_852, ht_854, hP1, hK1, hD1, hx_853⟩ := hB
      rw [ht] at hP1
      have hK := va_K.moved hvm.symm hK1
      have hD := hD1.weaken (fun _ _ _ h => hFc _ h)
      generalize H1 = H at hP1 hS ⊢
      have hP := hP1
      have e_855 := hm_852.objK e_609 (by decide)
      obtain ⟨g_857, e_856, h_858⟩ := hm_852.obj e_610
      obtain ⟨z_859, z_860, z_861, z_862, rfl⟩ := smX6 h_858
      obtain ⟨f_864, e_863⟩ := hm_852.arrI e_611
      have u_865 := ht_854 _ _ u_613
      obtain ⟨f_867, e_866⟩ := hm_852.arrI e_614
      have u_868 := ht_854 _ _ u_616
      have hsm := hsm.tr (hm_852.mono (by decide))
      have htx := htx.tr ht_854
      obtain ⟨k_869, s_870, e_871, h_872, h_873, h_874, e_875⟩ := hx_853
      refine lv_aload_n hx hb dX4_readTest_99 rfl (lv_at hl 2 rfl) ?_
      refine lv_sipush (v := 1000) hx hb dX4_readTest_100 (by decide) ?_
      have hFc := free_all hD hS hA
      refine va_calli (va_runV (As := [.int 1000]) (rest := []) ⟨hx, hb, hml, hown, hts⟩ (r_readNumber l D ρ ws_850 ty_851 adK adV fo rd krd tp ktp cd bb tl 1000 H.size (⟨s_870, e_871, cc_570, ra_571, rb_572, rc_573, rv_574, re_575, nI k_869, by omega, by omega, by omega, by omega, e_855, e_875, wr_583, wt_584, ⟨k_585, c9_586, t_587, f_864, e_863, u_865, w_591⟩, ⟨k_592, c9_593, t_594, f_867, e_866, u_868, w_598⟩⟩ : RS ρ ws_850 ty_851 rd krd tp ktp cd bb tl)) (cwV 1 hts gX4_readTest_X4_readNumber rfl rfl rfl (by decide +kernel) ⟨Nat.le_of_ble_eq_true rfl, Nat.le_of_ble_eq_true rfl⟩) ⟨fun a U g mk q => by obtain ⟨q0, q1, qP, qK, qD, qS⟩ := q; exact ⟨q0, q1, qP, va_K.moved (u := U) (U := U.calling g mk a) (Vm.Alike.refl U.vm) qK, qD, SZ.same rfl rfl qS⟩, va_recv hK hP (ci := 4) (q0 := krd) rfl e_855, fun U hU hW => ⟨rfl, by rw [hU], by rw [hU]; exact hP, va_K.moved hW.alike hK, hD.weaken (fun _ _ _ _ => trivial), hsz9.go hS hW hU hFc⟩⟩ rfl rfl hl.1 rfl (lv_room (Nat.le_of_ble_eq_true rfl)) dX4_readTest_103 ⟨Nat.le_of_ble_eq_true rfl, Nat.le_of_ble_eq_true rfl⟩) hS (fun q _ h => hFc q h) hFc (fun r_876 u t H1 locs ht hvm w_877 hB hz1 hk1 hS => ?_)
      obtain ⟨ws_878, ty_879, hm_880, ht_882, hP1, hK1, hD1, hx_881⟩ := hB
      rw [ht] at hP1
      have hK := va_K.moved hvm.symm hK1
      have hD := hD1.weaken (fun _ _ _ h => hFc _ h)
      generalize H1 = H at hP1 hS ⊢
      have hP := hP1
      obtain ⟨g_884, e_883, h_885⟩ := hm_880.obj e_855
      obtain ⟨z_886, z_887, z_888, z_889, z_890, z_891, rfl⟩ := smX4 h_885
      obtain ⟨g_893, e_892, h_894⟩ := hm_880.obj e_875
      obtain ⟨z_895, z_896, z_897, z_898, rfl⟩ := smX6 h_894
      obtain ⟨f_900, e_899⟩ := hm_880.arrI e_863
      have u_901 := ht_882 _ _ u_865
      obtain ⟨f_903, e_902⟩ := hm_880.arrI e_866
      have u_904 := ht_882 _ _ u_868
      have hsm := hsm.tr (hm_880.mono (by decide))
      have htx := htx.tr ht_882
      obtain ⟨ts_905, te_906, cc_907, ra_908, rb_909, rc_910, rv_911, re_912, ya_913, h1_914, h2_915, h3_916, h4_917, er_918, et_919, wr_920, wt_921, ⟨k_922, c9_923, t_924, f_925, e_926, u_927, w_928⟩, ⟨k_929, c9_930, t_931, f_932, e_933, u_934, w_935⟩⟩ := id hx_881
      rcases w_877 with rfl | rfl
      · refine lv_if_ne (tgt := 111) hx hb dX4_readTest_106 (by decide) (fun c_936 => absurd (by decide) c_936) (fun c_936 => ?_)
        refine lv_iconst (v := 0) hx hb dX4_readTest_109 (by decide) ?_
        exact W.zret (v := 0) hx hb hr rfl (fun t ht hW => ⟨⟨0, (), rfl, Or.inl rfl, ws_878, ty_879, hsm, htx, by rw [ht]; exact hP, va_K.moved hW.alike hK, hD, (⟨ts_905, te_906, cc_907, ra_908, rb_909, rc_910, rv_911, re_912, ya_913, by omega, by omega, by omega, by omega, er_918, et_919, wr_920, wt_921, ⟨k_922, c9_923, t_924, f_925, e_926, u_927, w_928⟩, ⟨k_929, c9_930, t_931, f_932, e_933, u_934, w_935⟩⟩ : RS ρ ws_878 ty_879 rd krd tp ktp cd bb tl)⟩, hS.F ht⟩) hS.2.2 dX4_readTest_110
      refine lv_if_ne (tgt := 111) hx hb dX4_readTest_106 (by decide) (fun c_937 => ?_) (fun c_937 => absurd c_937 (by decide))
      refine lv_aload_n hx hb dX4_readTest_111 rfl (lv_at hl 2 rfl) ?_
      refine lv_iload_n hx hb dX4_readTest_112 rfl (lv_at hl 1 rfl) ?_
      refine lv_iload_n hx hb dX4_readTest_113 rfl (lv_at hl 0 rfl) ?_
      refine lv_aload_n hx hb dX4_readTest_114 rfl (lv_at hl 2 rfl) ?_
      refine va_get (D := D) (ci := 4) (v := .int re_912) (C := RX4) (T := TX4) (N := 8) hx hb hts hin4 hown hK hP krd er_918 rfl 7 (by decide) (hts (.fieldLink RX4 56 "HoneyHouse$RuleReader" "value" "I") (List.mem_of_getElem? (i := 2) rfl)) (fun _ h9 => h9) rfl dX4_readTest_115 ?_
      refine vp_callSi (W.runS (As := [.int z_601, .int 1, .int re_912]) (rest := [.ref rd]) ⟨hx, hb, hml, hown, hts⟩ (s_testCode l z_601 1 re_912) (va_cwS 3 hts gX4_readTest_X4_testCode rfl rfl rfl (by decide +kernel) ⟨Nat.le_of_ble_eq_true rfl, Nat.le_of_ble_eq_true rfl⟩) ⟨fun a U g mk q => q, fun U hU hW => ⟨rfl, trivial⟩⟩ rfl rfl hl.1 rfl (lv_room (Nat.le_of_ble_eq_true rfl)) dX4_readTest_118 ⟨Nat.le_of_ble_eq_true rfl, Nat.le_of_ble_eq_true rfl⟩) (fun r_938 k_939 => ?_)
      have hFc := free_all hD hS hA
      refine va_callv (va_runV (As := [.int r_938]) (rest := []) ⟨hx, hb, hml, hown, hts⟩ (r_addCode l D ρ ws_878 ty_879 adK adV fo rd krd tp ktp cd bb tl r_938 H.size (⟨ts_905, te_906, cc_907, ra_908, rb_909, rc_910, rv_911, re_912, ya_913, by omega, by omega, by omega, by omega, er_918, et_919, wr_920, wt_921, ⟨k_922, c9_923, t_924, f_925, e_926, u_927, w_928⟩, ⟨k_929, c9_930, t_931, f_932, e_933, u_934, w_935⟩⟩ : RS ρ ws_878 ty_879 rd krd tp ktp cd bb tl)) (cwV 1 hts gX4_readTest_X4_addCode rfl rfl rfl (by decide +kernel) ⟨Nat.le_of_ble_eq_true rfl, Nat.le_of_ble_eq_true rfl⟩) ⟨fun a U g mk q => by obtain ⟨q0, q1, qP, qK, qD, qS⟩ := q; exact ⟨q0, q1, qP, va_K.moved (u := U) (U := U.calling g mk a) (Vm.Alike.refl U.vm) qK, qD, SZ.same rfl rfl qS⟩, va_recv hK hP (ci := 4) (q0 := krd) rfl er_918, fun U hU hW => ⟨rfl, by rw [hU], by rw [hU]; exact hP, va_K.moved hW.alike hK, hD.weaken (fun _ _ _ _ => trivial), hsz9.go hS hW hU hFc⟩⟩ rfl rfl hl.1 rfl (lv_room (Nat.le_of_ble_eq_true rfl)) dX4_readTest_121 ⟨Nat.le_of_ble_eq_true rfl, Nat.le_of_ble_eq_true rfl⟩) hS (fun q _ h => hFc q h) hFc (fun u t H1 locs ht hvm w_941 hB hz1 hk1 hS => ?_)
      obtain ⟨ws_942, ty_943, hm_944, ht_946, hP1, hK1, hD1, hx_945⟩ := hB
      rw [ht] at hP1
      have hK := va_K.moved hvm.symm hK1
      have hD := hD1.weaken (fun _ _ _ h => hFc _ h)
      generalize H1 = H at hP1 hS ⊢
      have hP := hP1
      obtain ⟨g_948, e_947, h_949⟩ := hm_944.obj er_918
      obtain ⟨z_950, z_951, z_952, z_953, z_954, z_955, rfl⟩ := smX4 h_949
      obtain ⟨g_957, e_956, h_958⟩ := hm_944.obj et_919
      obtain ⟨z_959, z_960, z_961, z_962, rfl⟩ := smX6 h_958
      obtain ⟨f_964, e_963⟩ := hm_944.arrI e_926
      have u_965 := ht_946 _ _ u_927
      obtain ⟨f_967, e_966⟩ := hm_944.arrI e_933
      have u_968 := ht_946 _ _ u_934
      have hsm := hsm.tr (hm_944.mono (by decide))
      have htx := htx.tr ht_946
      obtain ⟨ts_969, te_970, cc_971, ra_972, rb_973, rc_974, rv_975, re_976, ya_977, h1_978, h2_979, h3_980, h4_981, er_982, et_983, wr_984, wt_985, ⟨k_986, c9_987, t_988, f_989, e_990, u_991, w_992⟩, ⟨k_993, c9_994, t_995, f_996, e_997, u_998, w_999⟩⟩ := id hx_945
      refine lv_iconst (v := 1) hx hb dX4_readTest_124 (by decide) ?_
      exact W.zret (v := 1) hx hb hr rfl (fun t ht hW => ⟨⟨1, (), rfl, Or.inr rfl, ws_942, ty_943, hsm, htx, by rw [ht]; exact hP, va_K.moved hW.alike hK, hD, (⟨ts_969, te_970, cc_971, ra_972, rb_973, rc_974, rv_975, re_976, ya_977, by omega, by omega, by omega, by omega, er_982, et_983, wr_984, wt_985, ⟨k_986, c9_987, t_988, f_989, e_990, u_991, w_992⟩, ⟨k_993, c9_994, t_995, f_996, e_997, u_998, w_999⟩⟩ : RS ρ ws_942 ty_943 rd krd tp ktp cd bb tl)⟩, hS.F ht⟩) hS.2.2 dX4_readTest_125
    refine lv_iload_n hx hb dX4_readTest_28 rfl (lv_at hl 0 rfl) ?_
    refine lv_bipush (v := 30) hx hb dX4_readTest_29 (by decide) ?_
    refine lv_icmp_ne (tgt := 61) hx hb dX4_readTest_31 (by decide) (fun c_1000 => ?_) (fun c_1000 => ?_)
    · refine lv_aload_n hx hb dX4_readTest_61 rfl (lv_at hl 1 rfl) ?_
      refine va_get (D := D) (ci := 4) (v := .ref tp) (C := RX4) (T := TX4) (N := 8) hx hb hts hin4 hown hK hP krd e_55 rfl 0 (by decide) (hts (.fieldLink RX4 12 "HoneyHouse$RuleReader" "tape" "LHoneyHouse$Tape;") (List.mem_of_getElem? (i := 1) rfl)) (fun _ h9 => h9) rfl dX4_readTest_62 ?_
      refine va_ldcS hx hb hown hsz9.2.2.2.2.2.2.2.2.1 dX4_readTest_65 ?_
      have hFc := free_all hD hS hA
      refine va_calli (va_runV (As := [.ref (adK 5)]) (rest := []) ⟨hx, hb, hml, hown, hts⟩ (a_isWord l D ρ ws_50 ty_51 adK adV fo 5 tp ktp tl (nI k_69) (nI s_70) (nI e_71) bb k_25 c9_26 t_27 f_67 H.size (by decide) e_75 e_66 u_68) (cwV 1 hts gX4_readTest_X6_isWord rfl rfl rfl (by decide +kernel) ⟨Nat.le_of_ble_eq_true rfl, Nat.le_of_ble_eq_true rfl⟩) ⟨fun a U g mk q => by obtain ⟨q0, q1, qP, qK, qD, qS⟩ := q; exact ⟨q0, q1, qP, va_K.moved (u := U) (U := U.calling g mk a) (Vm.Alike.refl U.vm) qK, qD, SZ.same rfl rfl qS⟩, va_recv hK hP (ci := 6) (q0 := ktp) rfl e_75, fun U hU hW => ⟨rfl, by rw [hU], by rw [hU]; exact hP, va_K.moved hW.alike hK, hD.weaken (fun _ _ _ _ => trivial), hsz9.go hS hW hU hFc⟩⟩ rfl rfl hl.1 rfl (lv_room (Nat.le_of_ble_eq_true rfl)) dX4_readTest_67 ⟨Nat.le_of_ble_eq_true rfl, Nat.le_of_ble_eq_true rfl⟩) hS (fun q _ h => hFc q h) hFc (fun r_1001 u t H1 locs ht hvm w_1002 hB hz1 hk1 hS => ?_)
      obtain ⟨ws_1003, ty_1004, hm_1005, ht_1007, hP1, hK1, hD1, hx_1006⟩ := hB
      rw [ht] at hP1
      have hK := va_K.moved hvm.symm hK1
      have hD := hD1.weaken (fun _ _ _ h => hFc _ h)
      generalize H1 = H at hP1 hS ⊢
      have hP := hP1
      have e_1008 := hm_1005.objK e_55 (by decide)
      have e_1009 := hm_1005.objK e_75 (by decide)
      obtain ⟨f_1011, e_1010⟩ := hm_1005.arrI e_63
      have u_1012 := ht_1007 _ _ u_65
      obtain ⟨f_1014, e_1013⟩ := hm_1005.arrI e_66
      have u_1015 := ht_1007 _ _ u_68
      have hsm := hsm.tr (hm_1005.mono (by decide))
      have htx := htx.tr ht_1007
      rcases w_1002 with rfl | rfl
      · refine lv_istore_n (lv' := [(2, .int 0), (1, .int r_32), (0, .ref rd)]) hx hb dX4_readTest_70 rfl hl (by decide) rfl (fun ls hl => ?_)
        refine lv_iload_n hx hb dX4_readTest_71 rfl (lv_at hl 0 rfl) ?_
        refine lv_if_ne (tgt := 92) hx hb dX4_readTest_72 (by decide) (fun c_1016 => absurd (by decide) c_1016) (fun c_1016 => ?_)
        refine lv_aload_n hx hb dX4_readTest_75 rfl (lv_at hl 2 rfl) ?_
        refine va_get (D := D) (ci := 4) (v := .ref tp) (C := RX4) (T := TX4) (N := 8) hx hb hts hin4 hown hK hP krd e_1008 rfl 0 (by decide) (hts (.fieldLink RX4 12 "HoneyHouse$RuleReader" "tape" "LHoneyHouse$Tape;") (List.mem_of_getElem? (i := 1) rfl)) (fun _ h9 => h9) rfl dX4_readTest_76 ?_
        refine va_ldcS hx hb hown hsz9.2.2.2.2.2.2.2.1 dX4_readTest_79 ?_
        have hFc := free_all hD hS hA
        refine va_calli (va_runV (As := [.ref (adK 4)]) (rest := []) ⟨hx, hb, hml, hown, hts⟩ (a_isWord l D ρ ws_1003 ty_1004 adK adV fo 4 tp ktp tl (nI k_69) (nI s_70) (nI e_71) bb k_25 c9_26 t_27 f_1014 H.size (by decide) e_1009 e_1013 u_1015) (cwV 1 hts gX4_readTest_X6_isWord rfl rfl rfl (by decide +kernel) ⟨Nat.le_of_ble_eq_true rfl, Nat.le_of_ble_eq_true rfl⟩) ⟨fun a U g mk q => by obtain ⟨q0, q1, qP, qK, qD, qS⟩ := q; exact ⟨q0, q1, qP, va_K.moved (u := U) (U := U.calling g mk a) (Vm.Alike.refl U.vm) qK, qD, SZ.same rfl rfl qS⟩, va_recv hK hP (ci := 6) (q0 := ktp) rfl e_1009, fun U hU hW => ⟨rfl, by rw [hU], by rw [hU]; exact hP, va_K.moved hW.alike hK, hD.weaken (fun _ _ _ _ => trivial), hsz9.go hS hW hU hFc⟩⟩ rfl rfl hl.1 rfl (lv_room (Nat.le_of_ble_eq_true rfl)) dX4_readTest_81 ⟨Nat.le_of_ble_eq_true rfl, Nat.le_of_ble_eq_true rfl⟩) hS (fun q _ h => hFc q h) hFc (fun r_1017 u t H1 locs ht hvm w_1018 hB hz1 hk1 hS => ?_)
        obtain ⟨ws_1019, ty_1020, hm_1021, ht_1023, hP1, hK1, hD1, hx_1022⟩ := hB
        rw [ht] at hP1
        have hK := va_K.moved hvm.symm hK1
        have hD := hD1.weaken (fun _ _ _ h => hFc _ h)
        generalize H1 = H at hP1 hS ⊢
        have hP := hP1
        have e_1024 := hm_1021.objK e_1008 (by decide)
        have e_1025 := hm_1021.objK e_1009 (by decide)
        obtain ⟨f_1027, e_1026⟩ := hm_1021.arrI e_1010
        have u_1028 := ht_1023 _ _ u_1012
        obtain ⟨f_1030, e_1029⟩ := hm_1021.arrI e_1013
        have u_1031 := ht_1023 _ _ u_1015
        have hsm := hsm.tr (hm_1021.mono (by decide))
        have htx := htx.tr ht_1023
        rcases w_1018 with rfl | rfl
        · refine lv_if_ne (tgt := 92) hx hb dX4_readTest_84 (by decide) (fun c_1032 => absurd (by decide) c_1032) (fun c_1032 => ?_)
          refine lv_aload_n hx hb dX4_readTest_87 rfl (lv_at hl 2 rfl) ?_
          have hFc := free_all hD hS hA
          refine va_calli (va_runV (As := []) (rest := []) ⟨hx, hb, hml, hown, hts⟩ (r_failHere l D ρ ws_1019 ty_1020 adK adV fo rd krd tp ktp cd bb tl  H.size (⟨s_70, e_71, cc_3, ra_4, rb_5, rc_6, rv_7, re_8, nI k_69, by omega, by omega, by omega, by omega, e_1024, e_1025, wr_16, wt_17, ⟨k_18, c9_19, t_20, f_1027, e_1026, u_1028, w_24⟩, ⟨k_25, c9_26, t_27, f_1030, e_1029, u_1031, w_31⟩⟩ : RS ρ ws_1019 ty_1020 rd krd tp ktp cd bb tl)) (cwV 0 hts gX4_readTest_X4_failHere rfl rfl rfl (by decide +kernel) ⟨Nat.le_of_ble_eq_true rfl, Nat.le_of_ble_eq_true rfl⟩) ⟨fun a U g mk q => by obtain ⟨q0, q1, qP, qK, qD, qS⟩ := q; exact ⟨q0, q1, qP, va_K.moved (u := U) (U := U.calling g mk a) (Vm.Alike.refl U.vm) qK, qD, SZ.same rfl rfl qS⟩, va_recv hK hP (ci := 4) (q0 := krd) rfl e_1024, fun U hU hW => ⟨rfl, by rw [hU], by rw [hU]; exact hP, va_K.moved hW.alike hK, hD.weaken (fun _ _ _ _ => trivial), hsz9.go hS hW hU hFc⟩⟩ rfl rfl hl.1 rfl (lv_room (Nat.le_of_ble_eq_true rfl)) dX4_readTest_88 ⟨Nat.le_of_ble_eq_true rfl, Nat.le_of_ble_eq_true rfl⟩) hS (fun q _ h => hFc q h) hFc (fun r_1033 u t H1 locs ht hvm w_1034 hB hz1 hk1 hS => ?_)
          obtain ⟨ws_1035, ty_1036, hm_1037, ht_1039, hP1, hK1, hD1, hx_1038⟩ := hB
          rw [ht] at hP1
          have hK := va_K.moved hvm.symm hK1
          have hD := hD1.weaken (fun _ _ _ h => hFc _ h)
          generalize H1 = H at hP1 hS ⊢
          have hP := hP1
          obtain ⟨g_1041, e_1040, h_1042⟩ := hm_1037.obj e_1024
          obtain ⟨z_1043, z_1044, z_1045, z_1046, z_1047, z_1048, rfl⟩ := smX4 h_1042
          obtain ⟨g_1050, e_1049, h_1051⟩ := hm_1037.obj e_1025
          obtain ⟨z_1052, z_1053, z_1054, z_1055, rfl⟩ := smX6 h_1051
          obtain ⟨f_1057, e_1056⟩ := hm_1037.arrI e_1026
          have u_1058 := ht_1039 _ _ u_1028
          obtain ⟨f_1060, e_1059⟩ := hm_1037.arrI e_1029
          have u_1061 := ht_1039 _ _ u_1031
          have hsm := hsm.tr (hm_1037.mono (by decide))
          have htx := htx.tr ht_1039
          obtain ⟨ts_1062, te_1063, cc_1064, ra_1065, rb_1066, rc_1067, rv_1068, re_1069, ya_1070, h1_1071, h2_1072, h3_1073, h4_1074, er_1075, et_1076, wr_1077, wt_1078, ⟨k_1079, c9_1080, t_1081, f_1082, e_1083, u_1084, w_1085⟩, ⟨k_1086, c9_1087, t_1088, f_1089, e_1090, u_1091, w_1092⟩⟩ := id hx_1038
          subst w_1034
          exact W.zret (v := 0) hx hb hr rfl (fun t ht hW => ⟨⟨0, (), rfl, Or.inl rfl, ws_1035, ty_1036, hsm, htx, by rw [ht]; exact hP, va_K.moved hW.alike hK, hD, (⟨ts_1062, te_1063, cc_1064, ra_1065, rb_1066, rc_1067, rv_1068, re_1069, ya_1070, by omega, by omega, by omega, by omega, er_1075, et_1076, wr_1077, wt_1078, ⟨k_1079, c9_1080, t_1081, f_1082, e_1083, u_1084, w_1085⟩, ⟨k_1086, c9_1087, t_1088, f_1089, e_1090, u_1091, w_1092⟩⟩ : RS ρ ws_1035 ty_1036 rd krd tp ktp cd bb tl)⟩, hS.F ht⟩) hS.2.2 dX4_readTest_91
        refine lv_if_ne (tgt := 92) hx hb dX4_readTest_84 (by decide) (fun c_1093 => ?_) (fun c_1093 => absurd c_1093 (by decide))
        refine lv_aload_n hx hb dX4_readTest_92 rfl (lv_at hl 2 rfl) ?_
        refine va_get (D := D) (ci := 4) (v := .ref tp) (C := RX4) (T := TX4) (N := 8) hx hb hts hin4 hown hK hP krd e_1024 rfl 0 (by decide) (hts (.fieldLink RX4 12 "HoneyHouse$RuleReader" "tape" "LHoneyHouse$Tape;") (List.mem_of_getElem? (i := 1) rfl)) (fun _ h9 => h9) rfl dX4_readTest_93 ?_
        have hFc := free_all hD hS hA
        refine va_callv (va_runV (As := []) (rest := []) ⟨hx, hb, hml, hown, hts⟩ (a_advance l D ρ ws_1019 ty_1020 tp ktp tl e_71 (nI k_69) (nI s_70) bb k_25 c9_26 t_27 f_1030 H.size (by omega) (by omega) e_1025 e_1029 u_1031 wt_17) (cwV 0 hts gX4_readTest_X6_advance rfl rfl rfl (by decide +kernel) ⟨Nat.le_of_ble_eq_true rfl, Nat.le_of_ble_eq_true rfl⟩) ⟨fun a U g mk q => by obtain ⟨q0, q1, qP, qK, qD⟩ := q; exact ⟨q0, q1, qP, va_K.moved (u := U) (U := U.calling g mk a) (Vm.Alike.refl U.vm) qK, qD⟩, va_recv hK hP (ci := 6) (q0 := ktp) rfl e_1025, fun U hU hW => ⟨rfl, by rw [hU], by rw [hU]; exact hP, va_K.moved hW.alike hK, hD.weaken (fun _ _ _ _ => trivial)⟩⟩ rfl rfl hl.1 rfl (lv_room (Nat.le_of_ble_eq_true rfl)) dX4_readTest_96 ⟨Nat.le_of_ble_eq_true rfl, Nat.le_of_ble_eq_true rfl⟩) hS (fun q _ h => hFc q h) hFc (fun u t H1 locs ht hvm w_1095 hB hz1 hk1 hS => ?_)
        obtain ⟨ws_1096, ty_1097, hm_1098, ht_1100, hP1, hK1, hD1, hx_1099⟩ := hB
        rw [ht] at hP1
        have hK := va_K.moved hvm.symm hK1
        have hD := hD1.weaken (fun _ _ _ h => hFc _ h)
        generalize H1 = H at hP1 hS ⊢
        have hP := hP1
        have e_1101 := hm_1098.objK e_1024 (by decide)
        obtain ⟨g_1103, e_1102, h_1104⟩ := hm_1098.obj e_1025
        obtain ⟨z_1105, z_1106, z_1107, z_1108, rfl⟩ := smX6 h_1104
        obtain ⟨f_1110, e_1109⟩ := hm_1098.arrI e_1026
        have u_1111 := ht_1100 _ _ u_1028
        obtain ⟨f_1113, e_1112⟩ := hm_1098.arrI e_1029
        have u_1114 := ht_1100 _ _ u_1031
        have hsm := hsm.tr (hm_1098.mono (by decide))
        have htx := htx.tr ht_1100
        obtain ⟨k_1115, s_1116, e_1117, h_1118, h_1119, h_1120, e_1121⟩ := hx_1099
        refine lv_aload_n hx hb dX4_readTest_99 rfl (lv_at hl 2 rfl) ?_
        refine lv_sipush (v := 1000) hx hb dX4_readTest_100 (by decide) ?_
        have hFc := free_all hD hS hA
        refine va_calli (va_runV (As := [.int 1000]) (rest := []) ⟨hx, hb, hml, hown, hts⟩ (r_readNumber l D ρ ws_1096 ty_1097 adK adV fo rd krd tp ktp cd bb tl 1000 H.size (⟨s_1116, e_1117, cc_3, ra_4, rb_5, rc_6, rv_7, re_8, nI k_1115, by omega, by omega, by omega, by omega, e_1101, e_1121, wr_16, wt_17, ⟨k_18, c9_19, t_20, f_1110, e_1109, u_1111, w_24⟩, ⟨k_25, c9_26, t_27, f_1113, e_1112, u_1114, w_31⟩⟩ : RS ρ ws_1096 ty_1097 rd krd tp ktp cd bb tl)) (cwV 1 hts gX4_readTest_X4_readNumber rfl rfl rfl (by decide +kernel) ⟨Nat.le_of_ble_eq_true rfl, Nat.le_of_ble_eq_true rfl⟩) ⟨fun a U g mk q => by obtain ⟨q0, q1, qP, qK, qD, qS⟩ := q; exact ⟨q0, q1, qP, va_K.moved (u := U) (U := U.calling g mk a) (Vm.Alike.refl U.vm) qK, qD, SZ.same rfl rfl qS⟩, va_recv hK hP (ci := 4) (q0 := krd) rfl e_1101, fun U hU hW => ⟨rfl, by rw [hU], by rw [hU]; exact hP, va_K.moved hW.alike hK, hD.weaken (fun _ _ _ _ => trivial), hsz9.go hS hW hU hFc⟩⟩ rfl rfl hl.1 rfl (lv_room (Nat.le_of_ble_eq_true rfl)) dX4_readTest_103 ⟨Nat.le_of_ble_eq_true rfl, Nat.le_of_ble_eq_true rfl⟩) hS (fun q _ h => hFc q h) hFc (fun r_1122 u t H1 locs ht hvm w_1123 hB hz1 hk1 hS => ?_)
        obtain ⟨ws_1124, ty_1125, hm_1126, ht_1128, hP1, hK1, hD1, hx_1127⟩ := hB
        rw [ht] at hP1
        have hK := va_K.moved hvm.symm hK1
        have hD := hD1.weaken (fun _ _ _ h => hFc _ h)
        generalize H1 = H at hP1 hS ⊢
        have hP := hP1
        obtain ⟨g_1130, e_1129, h_1131⟩ := hm_1126.obj e_1101
        obtain ⟨z_1132, z_1133, z_1134, z_1135, z_1136, z_1137, rfl⟩ := smX4 h_1131
        obtain ⟨g_1139, e_1138, h_1140⟩ := hm_1126.obj e_1121
        obtain ⟨z_1141, z_1142, z_1143, z_1144, rfl⟩ := smX6 h_1140
        obtain ⟨f_1146, e_1145⟩ := hm_1126.arrI e_1109
        have u_1147 := ht_1128 _ _ u_1111
        obtain ⟨f_1149, e_1148⟩ := hm_1126.arrI e_1112
        have u_1150 := ht_1128 _ _ u_1114
        have hsm := hsm.tr (hm_1126.mono (by decide))
        have htx := htx.tr ht_1128
        obtain ⟨ts_1151, te_1152, cc_1153, ra_1154, rb_1155, rc_1156, rv_1157, re_1158, ya_1159, h1_1160, h2_1161, h3_1162, h4_1163, er_1164, et_1165, wr_1166, wt_1167, ⟨k_1168, c9_1169, t_1170, f_1171, e_1172, u_1173, w_1174⟩, ⟨k_1175, c9_1176, t_1177, f_1178, e_1179, u_1180, w_1181⟩⟩ := id hx_1127
        rcases w_1123 with rfl | rfl
        · refine lv_if_ne (tgt := 111) hx hb dX4_readTest_106 (by decide) (fun c_1182 => absurd (by decide) c_1182) (fun c_1182 => ?_)
          refine lv_iconst (v := 0) hx hb dX4_readTest_109 (by decide) ?_
          exact W.zret (v := 0) hx hb hr rfl (fun t ht hW => ⟨⟨0, (), rfl, Or.inl rfl, ws_1124, ty_1125, hsm, htx, by rw [ht]; exact hP, va_K.moved hW.alike hK, hD, (⟨ts_1151, te_1152, cc_1153, ra_1154, rb_1155, rc_1156, rv_1157, re_1158, ya_1159, by omega, by omega, by omega, by omega, er_1164, et_1165, wr_1166, wt_1167, ⟨k_1168, c9_1169, t_1170, f_1171, e_1172, u_1173, w_1174⟩, ⟨k_1175, c9_1176, t_1177, f_1178, e_1179, u_1180, w_1181⟩⟩ : RS ρ ws_1124 ty_1125 rd krd tp ktp cd bb tl)⟩, hS.F ht⟩) hS.2.2 dX4_readTest_110
        refine lv_if_ne (tgt := 111) hx hb dX4_readTest_106 (by decide) (fun c_1183 => ?_) (fun c_1183 => absurd c_1183 (by decide))
        refine lv_aload_n hx hb dX4_readTest_111 rfl (lv_at hl 2 rfl) ?_
        refine lv_iload_n hx hb dX4_readTest_112 rfl (lv_at hl 1 rfl) ?_
        refine lv_iload_n hx hb dX4_readTest_113 rfl (lv_at hl 0 rfl) ?_
        refine lv_aload_n hx hb dX4_readTest_114 rfl (lv_at hl 2 rfl) ?_
        refine va_get (D := D) (ci := 4) (v := .int re_1158) (C := RX4) (T := TX4) (N := 8) hx hb hts hin4 hown hK hP krd er_1164 rfl 7 (by decide) (hts (.fieldLink RX4 56 "HoneyHouse$RuleReader" "value" "I") (List.mem_of_getElem? (i := 2) rfl)) (fun _ h9 => h9) rfl dX4_readTest_115 ?_
        refine vp_callSi (W.runS (As := [.int r_32, .int 0, .int re_1158]) (rest := [.ref rd]) ⟨hx, hb, hml, hown, hts⟩ (s_testCode l r_32 0 re_1158) (va_cwS 3 hts gX4_readTest_X4_testCode rfl rfl rfl (by decide +kernel) ⟨Nat.le_of_ble_eq_true rfl, Nat.le_of_ble_eq_true rfl⟩) ⟨fun a U g mk q => q, fun U hU hW => ⟨rfl, trivial⟩⟩ rfl rfl hl.1 rfl (lv_room (Nat.le_of_ble_eq_true rfl)) dX4_readTest_118 ⟨Nat.le_of_ble_eq_true rfl, Nat.le_of_ble_eq_true rfl⟩) (fun r_1184 k_1185 => ?_)
        have hFc := free_all hD hS hA
        refine va_callv (va_runV (As := [.int r_1184]) (rest := []) ⟨hx, hb, hml, hown, hts⟩ (r_addCode l D ρ ws_1124 ty_1125 adK adV fo rd krd tp ktp cd bb tl r_1184 H.size (⟨ts_1151, te_1152, cc_1153, ra_1154, rb_1155, rc_1156, rv_1157, re_1158, ya_1159, by omega, by omega, by omega, by omega, er_1164, et_1165, wr_1166, wt_1167, ⟨k_1168, c9_1169, t_1170, f_1171, e_1172, u_1173, w_1174⟩, ⟨k_1175, c9_1176, t_1177, f_1178, e_1179, u_1180, w_1181⟩⟩ : RS ρ ws_1124 ty_1125 rd krd tp ktp cd bb tl)) (cwV 1 hts gX4_readTest_X4_addCode rfl rfl rfl (by decide +kernel) ⟨Nat.le_of_ble_eq_true rfl, Nat.le_of_ble_eq_true rfl⟩) ⟨fun a U g mk q => by obtain ⟨q0, q1, qP, qK, qD, qS⟩ := q; exact ⟨q0, q1, qP, va_K.moved (u := U) (U := U.calling g mk a) (Vm.Alike.refl U.vm) qK, qD, SZ.same rfl rfl qS⟩, va_recv hK hP (ci := 4) (q0 := krd) rfl er_1164, fun U hU hW => ⟨rfl, by rw [hU], by rw [hU]; exact hP, va_K.moved hW.alike hK, hD.weaken (fun _ _ _ _ => trivial), hsz9.go hS hW hU hFc⟩⟩ rfl rfl hl.1 rfl (lv_room (Nat.le_of_ble_eq_true rfl)) dX4_readTest_121 ⟨Nat.le_of_ble_eq_true rfl, Nat.le_of_ble_eq_true rfl⟩) hS (fun q _ h => hFc q h) hFc (fun u t H1 locs ht hvm w_1187 hB hz1 hk1 hS => ?_)
        obtain ⟨ws_1188, ty_1189, hm_1190, ht_1192, hP1, hK1, hD1, hx_1191⟩ := hB
        rw [ht] at hP1
        have hK := va_K.moved hvm.symm hK1
        have hD := hD1.weaken (fun _ _ _ h => hFc _ h)
        generalize H1 = H at hP1 hS ⊢
        have hP := hP1
        obtain ⟨g_1194, e_1193, h_1195⟩ := hm_1190.obj er_1164
        obtain ⟨z_1196, z_1197, z_1198, z_1199, z_1200, z_1201, rfl⟩ := smX4 h_1195
        obtain ⟨g_1203, e_1202, h_1204⟩ := hm_1190.obj et_1165
        obtain ⟨z_1205, z_1206, z_1207, z_1208, rfl⟩ := smX6 h_1204
        obtain ⟨f_1210, e_1209⟩ := hm_1190.arrI e_1172
        have u_1211 := ht_1192 _ _ u_1173
        obtain ⟨f_1213, e_1212⟩ := hm_1190.arrI e_1179
        have u_1214 := ht_1192 _ _ u_1180
        have hsm := hsm.tr (hm_1190.mono (by decide))
        have htx := htx.tr ht_1192
        obtain ⟨ts_1215, te_1216, cc_1217, ra_1218, rb_1219, rc_1220, rv_1221, re_1222, ya_1223, h1_1224, h2_1225, h3_1226, h4_1227, er_1228, et_1229, wr_1230, wt_1231, ⟨k_1232, c9_1233, t_1234, f_1235, e_1236, u_1237, w_1238⟩, ⟨k_1239, c9_1240, t_1241, f_1242, e_1243, u_1244, w_1245⟩⟩ := id hx_1191
        refine lv_iconst (v := 1) hx hb dX4_readTest_124 (by decide) ?_
        exact W.zret (v := 1) hx hb hr rfl (fun t ht hW => ⟨⟨1, (), rfl, Or.inr rfl, ws_1188, ty_1189, hsm, htx, by rw [ht]; exact hP, va_K.moved hW.alike hK, hD, (⟨ts_1215, te_1216, cc_1217, ra_1218, rb_1219, rc_1220, rv_1221, re_1222, ya_1223, by omega, by omega, by omega, by omega, er_1228, et_1229, wr_1230, wt_1231, ⟨k_1232, c9_1233, t_1234, f_1235, e_1236, u_1237, w_1238⟩, ⟨k_1239, c9_1240, t_1241, f_1242, e_1243, u_1244, w_1245⟩⟩ : RS ρ ws_1188 ty_1189 rd krd tp ktp cd bb tl)⟩, hS.F ht⟩) hS.2.2 dX4_readTest_125
      refine lv_istore_n (lv' := [(2, .int 1), (1, .int r_32), (0, .ref rd)]) hx hb dX4_readTest_70 rfl hl (by decide) rfl (fun ls hl => ?_)
      refine lv_iload_n hx hb dX4_readTest_71 rfl (lv_at hl 0 rfl) ?_
      refine lv_if_ne (tgt := 92) hx hb dX4_readTest_72 (by decide) (fun c_1246 => ?_) (fun c_1246 => absurd c_1246 (by decide))
      refine lv_aload_n hx hb dX4_readTest_92 rfl (lv_at hl 2 rfl) ?_
      refine va_get (D := D) (ci := 4) (v := .ref tp) (C := RX4) (T := TX4) (N := 8) hx hb hts hin4 hown hK hP krd e_1008 rfl 0 (by decide) (hts (.fieldLink RX4 12 "HoneyHouse$RuleReader" "tape" "LHoneyHouse$Tape;") (List.mem_of_getElem? (i := 1) rfl)) (fun _ h9 => h9) rfl dX4_readTest_93 ?_
      have hFc := free_all hD hS hA
      refine va_callv (va_runV (As := []) (rest := []) ⟨hx, hb, hml, hown, hts⟩ (a_advance l D ρ ws_1003 ty_1004 tp ktp tl e_71 (nI k_69) (nI s_70) bb k_25 c9_26 t_27 f_1014 H.size (by omega) (by omega) e_1009 e_1013 u_1015 wt_17) (cwV 0 hts gX4_readTest_X6_advance rfl rfl rfl (by decide +kernel) ⟨Nat.le_of_ble_eq_true rfl, Nat.le_of_ble_eq_true rfl⟩) ⟨fun a U g mk q => by obtain ⟨q0, q1, qP, qK, qD⟩ := q; exact ⟨q0, q1, qP, va_K.moved (u := U) (U := U.calling g mk a) (Vm.Alike.refl U.vm) qK, qD⟩, va_recv hK hP (ci := 6) (q0 := ktp) rfl e_1009, fun U hU hW => ⟨rfl, by rw [hU], by rw [hU]; exact hP, va_K.moved hW.alike hK, hD.weaken (fun _ _ _ _ => trivial)⟩⟩ rfl rfl hl.1 rfl (lv_room (Nat.le_of_ble_eq_true rfl)) dX4_readTest_96 ⟨Nat.le_of_ble_eq_true rfl, Nat.le_of_ble_eq_true rfl⟩) hS (fun q _ h => hFc q h) hFc (fun u t H1 locs ht hvm w_1248 hB hz1 hk1 hS => ?_)
      obtain ⟨ws_1249, ty_1250, hm_1251, ht_1253, hP1, hK1, hD1, hx_1252⟩ := hB
      rw [ht] at hP1
      have hK := va_K.moved hvm.symm hK1
      have hD := hD1.weaken (fun _ _ _ h => hFc _ h)
      generalize H1 = H at hP1 hS ⊢
      have hP := hP1
      have e_1254 := hm_1251.objK e_1008 (by decide)
      obtain ⟨g_1256, e_1255, h_1257⟩ := hm_1251.obj e_1009
      obtain ⟨z_1258, z_1259, z_1260, z_1261, rfl⟩ := smX6 h_1257
      obtain ⟨f_1263, e_1262⟩ := hm_1251.arrI e_1010
      have u_1264 := ht_1253 _ _ u_1012
      obtain ⟨f_1266, e_1265⟩ := hm_1251.arrI e_1013
      have u_1267 := ht_1253 _ _ u_1015
      have hsm := hsm.tr (hm_1251.mono (by decide))
      have htx := htx.tr ht_1253
      obtain ⟨k_1268, s_1269, e_1270, h_1271, h_1272, h_1273, e_1274⟩ := hx_1252
      refine lv_aload_n hx hb dX4_readTest_99 rfl (lv_at hl 2 rfl) ?_
      refine lv_sipush (v := 1000) hx hb dX4_readTest_100 (by decide) ?_
      have hFc := free_all hD hS hA
      refine va_calli (va_runV (As := [.int 1000]) (rest := []) ⟨hx, hb, hml, hown, hts⟩ (r_readNumber l D ρ ws_1249 ty_1250 adK adV fo rd krd tp ktp cd bb tl 1000 H.size (⟨s_1269, e_1270, cc_3, ra_4, rb_5, rc_6, rv_7, re_8, nI k_1268, by omega, by omega, by omega, by omega, e_1254, e_1274, wr_16, wt_17, ⟨k_18, c9_19, t_20, f_1263, e_1262, u_1264, w_24⟩, ⟨k_25, c9_26, t_27, f_1266, e_1265, u_1267, w_31⟩⟩ : RS ρ ws_1249 ty_1250 rd krd tp ktp cd bb tl)) (cwV 1 hts gX4_readTest_X4_readNumber rfl rfl rfl (by decide +kernel) ⟨Nat.le_of_ble_eq_true rfl, Nat.le_of_ble_eq_true rfl⟩) ⟨fun a U g mk q => by obtain ⟨q0, q1, qP, qK, qD, qS⟩ := q; exact ⟨q0, q1, qP, va_K.moved (u := U) (U := U.calling g mk a) (Vm.Alike.refl U.vm) qK, qD, SZ.same rfl rfl qS⟩, va_recv hK hP (ci := 4) (q0 := krd) rfl e_1254, fun U hU hW => ⟨rfl, by rw [hU], by rw [hU]; exact hP, va_K.moved hW.alike hK, hD.weaken (fun _ _ _ _ => trivial), hsz9.go hS hW hU hFc⟩⟩ rfl rfl hl.1 rfl (lv_room (Nat.le_of_ble_eq_true rfl)) dX4_readTest_103 ⟨Nat.le_of_ble_eq_true rfl, Nat.le_of_ble_eq_true rfl⟩) hS (fun q _ h => hFc q h) hFc (fun r_1275 u t H1 locs ht hvm w_1276 hB hz1 hk1 hS => ?_)
      obtain ⟨ws_1277, ty_1278, hm_1279, ht_1281, hP1, hK1, hD1, hx_1280⟩ := hB
      rw [ht] at hP1
      have hK := va_K.moved hvm.symm hK1
      have hD := hD1.weaken (fun _ _ _ h => hFc _ h)
      generalize H1 = H at hP1 hS ⊢
      have hP := hP1
      obtain ⟨g_1283, e_1282, h_1284⟩ := hm_1279.obj e_1254
      obtain ⟨z_1285, z_1286, z_1287, z_1288, z_1289, z_1290, rfl⟩ := smX4 h_1284
      obtain ⟨g_1292, e_1291, h_1293⟩ := hm_1279.obj e_1274
      obtain ⟨z_1294, z_1295, z_1296, z_1297, rfl⟩ := smX6 h_1293
      obtain ⟨f_1299, e_1298⟩ := hm_1279.arrI e_1262
      have u_1300 := ht_1281 _ _ u_1264
      obtain ⟨f_1302, e_1301⟩ := hm_1279.arrI e_1265
      have u_1303 := ht_1281 _ _ u_1267
      have hsm := hsm.tr (hm_1279.mono (by decide))
      have htx := htx.tr ht_1281
      obtain ⟨ts_1304, te_1305, cc_1306, ra_1307, rb_1308, rc_1309, rv_1310, re_1311, ya_1312, h1_1313, h2_1314, h3_1315, h4_1316, er_1317, et_1318, wr_1319, wt_1320, ⟨k_1321, c9_1322, t_1323, f_1324, e_1325, u_1326, w_1327⟩, ⟨k_1328, c9_1329, t_1330, f_1331, e_1332, u_1333, w_1334⟩⟩ := id hx_1280
      rcases w_1276 with rfl | rfl
      · refine lv_if_ne (tgt := 111) hx hb dX4_readTest_106 (by decide) (fun c_1335 => absurd (by decide) c_1335) (fun c_1335 => ?_)
        refine lv_iconst (v := 0) hx hb dX4_readTest_109 (by decide) ?_
        exact W.zret (v := 0) hx hb hr rfl (fun t ht hW => ⟨⟨0, (), rfl, Or.inl rfl, ws_1277, ty_1278, hsm, htx, by rw [ht]; exact hP, va_K.moved hW.alike hK, hD, (⟨ts_1304, te_1305, cc_1306, ra_1307, rb_1308, rc_1309, rv_1310, re_1311, ya_1312, by omega, by omega, by omega, by omega, er_1317, et_1318, wr_1319, wt_1320, ⟨k_1321, c9_1322, t_1323, f_1324, e_1325, u_1326, w_1327⟩, ⟨k_1328, c9_1329, t_1330, f_1331, e_1332, u_1333, w_1334⟩⟩ : RS ρ ws_1277 ty_1278 rd krd tp ktp cd bb tl)⟩, hS.F ht⟩) hS.2.2 dX4_readTest_110
      refine lv_if_ne (tgt := 111) hx hb dX4_readTest_106 (by decide) (fun c_1336 => ?_) (fun c_1336 => absurd c_1336 (by decide))
      refine lv_aload_n hx hb dX4_readTest_111 rfl (lv_at hl 2 rfl) ?_
      refine lv_iload_n hx hb dX4_readTest_112 rfl (lv_at hl 1 rfl) ?_
      refine lv_iload_n hx hb dX4_readTest_113 rfl (lv_at hl 0 rfl) ?_
      refine lv_aload_n hx hb dX4_readTest_114 rfl (lv_at hl 2 rfl) ?_
      refine va_get (D := D) (ci := 4) (v := .int re_1311) (C := RX4) (T := TX4) (N := 8) hx hb hts hin4 hown hK hP krd er_1317 rfl 7 (by decide) (hts (.fieldLink RX4 56 "HoneyHouse$RuleReader" "value" "I") (List.mem_of_getElem? (i := 2) rfl)) (fun _ h9 => h9) rfl dX4_readTest_115 ?_
      refine vp_callSi (W.runS (As := [.int r_32, .int 1, .int re_1311]) (rest := [.ref rd]) ⟨hx, hb, hml, hown, hts⟩ (s_testCode l r_32 1 re_1311) (va_cwS 3 hts gX4_readTest_X4_testCode rfl rfl rfl (by decide +kernel) ⟨Nat.le_of_ble_eq_true rfl, Nat.le_of_ble_eq_true rfl⟩) ⟨fun a U g mk q => q, fun U hU hW => ⟨rfl, trivial⟩⟩ rfl rfl hl.1 rfl (lv_room (Nat.le_of_ble_eq_true rfl)) dX4_readTest_118 ⟨Nat.le_of_ble_eq_true rfl, Nat.le_of_ble_eq_true rfl⟩) (fun r_1337 k_1338 => ?_)
      have hFc := free_all hD hS hA
      refine va_callv (va_runV (As := [.int r_1337]) (rest := []) ⟨hx, hb, hml, hown, hts⟩ (r_addCode l D ρ ws_1277 ty_1278 adK adV fo rd krd tp ktp cd bb tl r_1337 H.size (⟨ts_1304, te_1305, cc_1306, ra_1307, rb_1308, rc_1309, rv_1310, re_1311, ya_1312, by omega, by omega, by omega, by omega, er_1317, et_1318, wr_1319, wt_1320, ⟨k_1321, c9_1322, t_1323, f_1324, e_1325, u_1326, w_1327⟩, ⟨k_1328, c9_1329, t_1330, f_1331, e_1332, u_1333, w_1334⟩⟩ : RS ρ ws_1277 ty_1278 rd krd tp ktp cd bb tl)) (cwV 1 hts gX4_readTest_X4_addCode rfl rfl rfl (by decide +kernel) ⟨Nat.le_of_ble_eq_true rfl, Nat.le_of_ble_eq_true rfl⟩) ⟨fun a U g mk q => by obtain ⟨q0, q1, qP, qK, qD, qS⟩ := q; exact ⟨q0, q1, qP, va_K.moved (u := U) (U := U.calling g mk a) (Vm.Alike.refl U.vm) qK, qD, SZ.same rfl rfl qS⟩, va_recv hK hP (ci := 4) (q0 := krd) rfl er_1317, fun U hU hW => ⟨rfl, by rw [hU], by rw [hU]; exact hP, va_K.moved hW.alike hK, hD.weaken (fun _ _ _ _ => trivial), hsz9.go hS hW hU hFc⟩⟩ rfl rfl hl.1 rfl (lv_room (Nat.le_of_ble_eq_true rfl)) dX4_readTest_121 ⟨Nat.le_of_ble_eq_true rfl, Nat.le_of_ble_eq_true rfl⟩) hS (fun q _ h => hFc q h) hFc (fun u t H1 locs ht hvm w_1340 hB hz1 hk1 hS => ?_)
      obtain ⟨ws_1341, ty_1342, hm_1343, ht_1345, hP1, hK1, hD1, hx_1344⟩ := hB
      rw [ht] at hP1
      have hK := va_K.moved hvm.symm hK1
      have hD := hD1.weaken (fun _ _ _ h => hFc _ h)
      generalize H1 = H at hP1 hS ⊢
      have hP := hP1
      obtain ⟨g_1347, e_1346, h_1348⟩ := hm_1343.obj er_1317
      obtain ⟨z_1349, z_1350, z_1351, z_1352, z_1353, z_1354, rfl⟩ := smX4 h_1348
      obtain ⟨g_1356, e_1355, h_1357⟩ := hm_1343.obj et_1318
      obtain ⟨z_1358, z_1359, z_1360, z_1361, rfl⟩ := smX6 h_1357
      obtain ⟨f_1363, e_1362⟩ := hm_1343.arrI e_1325
      have u_1364 := ht_1345 _ _ u_1326
      obtain ⟨f_1366, e_1365⟩ := hm_1343.arrI e_1332
      have u_1367 := ht_1345 _ _ u_1333
      have hsm := hsm.tr (hm_1343.mono (by decide))
      have htx := htx.tr ht_1345
      obtain ⟨ts_1368, te_1369, cc_1370, ra_1371, rb_1372, rc_1373, rv_1374, re_1375, ya_1376, h1_1377, h2_1378, h3_1379, h4_1380, er_1381, et_1382, wr_1383, wt_1384, ⟨k_1385, c9_1386, t_1387, f_1388, e_1389, u_1390, w_1391⟩, ⟨k_1392, c9_1393, t_1394, f_1395, e_1396, u_1397, w_1398⟩⟩ := id hx_1344
      refine lv_iconst (v := 1) hx hb dX4_readTest_124 (by decide) ?_
      exact W.zret (v := 1) hx hb hr rfl (fun t ht hW => ⟨⟨1, (), rfl, Or.inr rfl, ws_1341, ty_1342, hsm, htx, by rw [ht]; exact hP, va_K.moved hW.alike hK, hD, (⟨ts_1368, te_1369, cc_1370, ra_1371, rb_1372, rc_1373, rv_1374, re_1375, ya_1376, by omega, by omega, by omega, by omega, er_1381, et_1382, wr_1383, wt_1384, ⟨k_1385, c9_1386, t_1387, f_1388, e_1389, u_1390, w_1391⟩, ⟨k_1392, c9_1393, t_1394, f_1395, e_1396, u_1397, w_1398⟩⟩ : RS ρ ws_1341 ty_1342 rd krd tp ktp cd bb tl)⟩, hS.F ht⟩) hS.2.2 dX4_readTest_125
    refine lv_aload_n hx hb dX4_readTest_34 rfl (lv_at hl 1 rfl) ?_
    refine lv_iload_n hx hb dX4_readTest_35 rfl (lv_at hl 0 rfl) ?_
    refine lv_bipush (v := 30) hx hb dX4_readTest_36 (by decide) ?_
    refine lv_icmp_ne (tgt := 45) hx hb dX4_readTest_38 (by decide) (fun c_1399 => ?_) (fun c_1399 => ?_)
    · refine lv_iconst (v := 4) hx hb dX4_readTest_45 (by decide) ?_
      have hFc := free_all hD hS hA
      refine va_calli (va_runV (As := [.int 4]) (rest := []) ⟨hx, hb, hml, hown, hts⟩ (r_readNumber l D ρ ws_50 ty_51 adK adV fo rd krd tp ktp cd bb tl 4 H.size (⟨s_70, e_71, cc_3, ra_4, rb_5, rc_6, rv_7, re_8, nI k_69, by omega, by omega, by omega, by omega, e_55, e_75, wr_16, wt_17, ⟨k_18, c9_19, t_20, f_64, e_63, u_65, w_24⟩, ⟨k_25, c9_26, t_27, f_67, e_66, u_68, w_31⟩⟩ : RS ρ ws_50 ty_51 rd krd tp ktp cd bb tl)) (cwV 1 hts gX4_readTest_X4_readNumber rfl rfl rfl (by decide +kernel) ⟨Nat.le_of_ble_eq_true rfl, Nat.le_of_ble_eq_true rfl⟩) ⟨fun a U g mk q => by obtain ⟨q0, q1, qP, qK, qD, qS⟩ := q; exact ⟨q0, q1, qP, va_K.moved (u := U) (U := U.calling g mk a) (Vm.Alike.refl U.vm) qK, qD, SZ.same rfl rfl qS⟩, va_recv hK hP (ci := 4) (q0 := krd) rfl e_55, fun U hU hW => ⟨rfl, by rw [hU], by rw [hU]; exact hP, va_K.moved hW.alike hK, hD.weaken (fun _ _ _ _ => trivial), hsz9.go hS hW hU hFc⟩⟩ rfl rfl hl.1 rfl (lv_room (Nat.le_of_ble_eq_true rfl)) dX4_readTest_46 ⟨Nat.le_of_ble_eq_true rfl, Nat.le_of_ble_eq_true rfl⟩) hS (fun q _ h => hFc q h) hFc (fun r_1400 u t H1 locs ht hvm w_1401 hB hz1 hk1 hS => ?_)
      obtain ⟨ws_1402, ty_1403, hm_1404, ht_1406, hP1, hK1, hD1, hx_1405⟩ := hB
      rw [ht] at hP1
      have hK := va_K.moved hvm.symm hK1
      have hD := hD1.weaken (fun _ _ _ h => hFc _ h)
      generalize H1 = H at hP1 hS ⊢
      have hP := hP1
      obtain ⟨g_1408, e_1407, h_1409⟩ := hm_1404.obj e_55
      obtain ⟨z_1410, z_1411, z_1412, z_1413, z_1414, z_1415, rfl⟩ := smX4 h_1409
      obtain ⟨g_1417, e_1416, h_1418⟩ := hm_1404.obj e_75
      obtain ⟨z_1419, z_1420, z_1421, z_1422, rfl⟩ := smX6 h_1418
      obtain ⟨f_1424, e_1423⟩ := hm_1404.arrI e_63
      have u_1425 := ht_1406 _ _ u_65
      obtain ⟨f_1427, e_1426⟩ := hm_1404.arrI e_66
      have u_1428 := ht_1406 _ _ u_68
      have hsm := hsm.tr (hm_1404.mono (by decide))
      have htx := htx.tr ht_1406
      obtain ⟨ts_1429, te_1430, cc_1431, ra_1432, rb_1433, rc_1434, rv_1435, re_1436, ya_1437, h1_1438, h2_1439, h3_1440, h4_1441, er_1442, et_1443, wr_1444, wt_1445, ⟨k_1446, c9_1447, t_1448, f_1449, e_1450, u_1451, w_1452⟩, ⟨k_1453, c9_1454, t_1455, f_1456, e_1457, u_1458, w_1459⟩⟩ := id hx_1405
      rcases w_1401 with rfl | rfl
      · refine lv_if_ne (tgt := 54) hx hb dX4_readTest_49 (by decide) (fun c_1460 => absurd (by decide) c_1460) (fun c_1460 => ?_)
        refine lv_iconst (v := 0) hx hb dX4_readTest_52 (by decide) ?_
        exact W.zret (v := 0) hx hb hr rfl (fun t ht hW => ⟨⟨0, (), rfl, Or.inl rfl, ws_1402, ty_1403, hsm, htx, by rw [ht]; exact hP, va_K.moved hW.alike hK, hD, (⟨ts_1429, te_1430, cc_1431, ra_1432, rb_1433, rc_1434, rv_1435, re_1436, ya_1437, by omega, by omega, by omega, by omega, er_1442, et_1443, wr_1444, wt_1445, ⟨k_1446, c9_1447, t_1448, f_1449, e_1450, u_1451, w_1452⟩, ⟨k_1453, c9_1454, t_1455, f_1456, e_1457, u_1458, w_1459⟩⟩ : RS ρ ws_1402 ty_1403 rd krd tp ktp cd bb tl)⟩, hS.F ht⟩) hS.2.2 dX4_readTest_53
      refine lv_if_ne (tgt := 54) hx hb dX4_readTest_49 (by decide) (fun c_1461 => ?_) (fun c_1461 => absurd c_1461 (by decide))
      refine lv_iload_n hx hb dX4_readTest_54 rfl (lv_at hl 0 rfl) ?_
      refine lv_aload_n hx hb dX4_readTest_55 rfl (lv_at hl 1 rfl) ?_
      refine va_get (D := D) (ci := 4) (v := .int re_1436) (C := RX4) (T := TX4) (N := 8) hx hb hts hin4 hown hK hP krd er_1442 rfl 7 (by decide) (hts (.fieldLink RX4 56 "HoneyHouse$RuleReader" "value" "I") (List.mem_of_getElem? (i := 2) rfl)) (fun _ h9 => h9) rfl dX4_readTest_56 ?_
      refine lv_iadd hx hb dX4_readTest_59 ?_
      refine lv_topi (fun z_1462 _ => ?_)
      refine lv_istore_n (lv' := [(1, .int z_1462), (0, .ref rd)]) hx hb dX4_readTest_60 rfl hl (by decide) rfl (fun ls hl => ?_)
      refine lv_aload_n hx hb dX4_readTest_61 rfl (lv_at hl 1 rfl) ?_
      refine va_get (D := D) (ci := 4) (v := .ref tp) (C := RX4) (T := TX4) (N := 8) hx hb hts hin4 hown hK hP krd er_1442 rfl 0 (by decide) (hts (.fieldLink RX4 12 "HoneyHouse$RuleReader" "tape" "LHoneyHouse$Tape;") (List.mem_of_getElem? (i := 1) rfl)) (fun _ h9 => h9) rfl dX4_readTest_62 ?_
      refine va_ldcS hx hb hown hsz9.2.2.2.2.2.2.2.2.1 dX4_readTest_65 ?_
      have hFc := free_all hD hS hA
      refine va_calli (va_runV (As := [.ref (adK 5)]) (rest := []) ⟨hx, hb, hml, hown, hts⟩ (a_isWord l D ρ ws_1402 ty_1403 adK adV fo 5 tp ktp tl ya_1437 (nI ts_1429) (nI te_1430) bb k_1453 c9_1454 t_1455 f_1456 H.size (by decide) et_1443 e_1457 u_1458) (cwV 1 hts gX4_readTest_X6_isWord rfl rfl rfl (by decide +kernel) ⟨Nat.le_of_ble_eq_true rfl, Nat.le_of_ble_eq_true rfl⟩) ⟨fun a U g mk q => by obtain ⟨q0, q1, qP, qK, qD, qS⟩ := q; exact ⟨q0, q1, qP, va_K.moved (u := U) (U := U.calling g mk a) (Vm.Alike.refl U.vm) qK, qD, SZ.same rfl rfl qS⟩, va_recv hK hP (ci := 6) (q0 := ktp) rfl et_1443, fun U hU hW => ⟨rfl, by rw [hU], by rw [hU]; exact hP, va_K.moved hW.alike hK, hD.weaken (fun _ _ _ _ => trivial), hsz9.go hS hW hU hFc⟩⟩ rfl rfl hl.1 rfl (lv_room (Nat.le_of_ble_eq_true rfl)) dX4_readTest_67 ⟨Nat.le_of_ble_eq_true rfl, Nat.le_of_ble_eq_true rfl⟩) hS (fun q _ h => hFc q h) hFc (fun r_1463 u t H1 locs ht hvm w_1464 hB hz1 hk1 hS => ?_)
      obtain ⟨ws_1465, ty_1466, hm_1467, ht_1469, hP1, hK1, hD1, hx_1468⟩ := hB
      rw [ht] at hP1
      have hK := va_K.moved hvm.symm hK1
      have hD := hD1.weaken (fun _ _ _ h => hFc _ h)
      generalize H1 = H at hP1 hS ⊢
      have hP := hP1
      have e_1470 := hm_1467.objK er_1442 (by decide)
      have e_1471 := hm_1467.objK et_1443 (by decide)
      obtain ⟨f_1473, e_1472⟩ := hm_1467.arrI e_1450
      have u_1474 := ht_1469 _ _ u_1451
      obtain ⟨f_1476, e_1475⟩ := hm_1467.arrI e_1457
      have u_1477 := ht_1469 _ _ u_1458
      have hsm := hsm.tr (hm_1467.mono (by decide))
      have htx := htx.tr ht_1469
      rcases w_1464 with rfl | rfl
      · refine lv_istore_n (lv' := [(2, .int 0), (1, .int z_1462), (0, .ref rd)]) hx hb dX4_readTest_70 rfl hl (by decide) rfl (fun ls hl => ?_)
        refine lv_iload_n hx hb dX4_readTest_71 rfl (lv_at hl 0 rfl) ?_
        refine lv_if_ne (tgt := 92) hx hb dX4_readTest_72 (by decide) (fun c_1478 => absurd (by decide) c_1478) (fun c_1478 => ?_)
        refine lv_aload_n hx hb dX4_readTest_75 rfl (lv_at hl 2 rfl) ?_
        refine va_get (D := D) (ci := 4) (v := .ref tp) (C := RX4) (T := TX4) (N := 8) hx hb hts hin4 hown hK hP krd e_1470 rfl 0 (by decide) (hts (.fieldLink RX4 12 "HoneyHouse$RuleReader" "tape" "LHoneyHouse$Tape;") (List.mem_of_getElem? (i := 1) rfl)) (fun _ h9 => h9) rfl dX4_readTest_76 ?_
        refine va_ldcS hx hb hown hsz9.2.2.2.2.2.2.2.1 dX4_readTest_79 ?_
        have hFc := free_all hD hS hA
        refine va_calli (va_runV (As := [.ref (adK 4)]) (rest := []) ⟨hx, hb, hml, hown, hts⟩ (a_isWord l D ρ ws_1465 ty_1466 adK adV fo 4 tp ktp tl ya_1437 (nI ts_1429) (nI te_1430) bb k_1453 c9_1454 t_1455 f_1476 H.size (by decide) e_1471 e_1475 u_1477) (cwV 1 hts gX4_readTest_X6_isWord rfl rfl rfl (by decide +kernel) ⟨Nat.le_of_ble_eq_true rfl, Nat.le_of_ble_eq_true rfl⟩) ⟨fun a U g mk q => by obtain ⟨q0, q1, qP, qK, qD, qS⟩ := q; exact ⟨q0, q1, qP, va_K.moved (u := U) (U := U.calling g mk a) (Vm.Alike.refl U.vm) qK, qD, SZ.same rfl rfl qS⟩, va_recv hK hP (ci := 6) (q0 := ktp) rfl e_1471, fun U hU hW => ⟨rfl, by rw [hU], by rw [hU]; exact hP, va_K.moved hW.alike hK, hD.weaken (fun _ _ _ _ => trivial), hsz9.go hS hW hU hFc⟩⟩ rfl rfl hl.1 rfl (lv_room (Nat.le_of_ble_eq_true rfl)) dX4_readTest_81 ⟨Nat.le_of_ble_eq_true rfl, Nat.le_of_ble_eq_true rfl⟩) hS (fun q _ h => hFc q h) hFc (fun r_1479 u t H1 locs ht hvm w_1480 hB hz1 hk1 hS => ?_)
        obtain ⟨ws_1481, ty_1482, hm_1483, ht_1485, hP1, hK1, hD1, hx_1484⟩ := hB
        rw [ht] at hP1
        have hK := va_K.moved hvm.symm hK1
        have hD := hD1.weaken (fun _ _ _ h => hFc _ h)
        generalize H1 = H at hP1 hS ⊢
        have hP := hP1
        have e_1486 := hm_1483.objK e_1470 (by decide)
        have e_1487 := hm_1483.objK e_1471 (by decide)
        obtain ⟨f_1489, e_1488⟩ := hm_1483.arrI e_1472
        have u_1490 := ht_1485 _ _ u_1474
        obtain ⟨f_1492, e_1491⟩ := hm_1483.arrI e_1475
        have u_1493 := ht_1485 _ _ u_1477
        have hsm := hsm.tr (hm_1483.mono (by decide))
        have htx := htx.tr ht_1485
        rcases w_1480 with rfl | rfl
        · refine lv_if_ne (tgt := 92) hx hb dX4_readTest_84 (by decide) (fun c_1494 => absurd (by decide) c_1494) (fun c_1494 => ?_)
          refine lv_aload_n hx hb dX4_readTest_87 rfl (lv_at hl 2 rfl) ?_
          have hFc := free_all hD hS hA
          refine va_calli (va_runV (As := []) (rest := []) ⟨hx, hb, hml, hown, hts⟩ (r_failHere l D ρ ws_1481 ty_1482 adK adV fo rd krd tp ktp cd bb tl  H.size (⟨ts_1429, te_1430, cc_1431, ra_1432, rb_1433, rc_1434, rv_1435, re_1436, ya_1437, by omega, by omega, by omega, by omega, e_1486, e_1487, wr_1444, wt_1445, ⟨k_1446, c9_1447, t_1448, f_1489, e_1488, u_1490, w_1452⟩, ⟨k_1453, c9_1454, t_1455, f_1492, e_1491, u_1493, w_1459⟩⟩ : RS ρ ws_1481 ty_1482 rd krd tp ktp cd bb tl)) (cwV 0 hts gX4_readTest_X4_failHere rfl rfl rfl (by decide +kernel) ⟨Nat.le_of_ble_eq_true rfl, Nat.le_of_ble_eq_true rfl⟩) ⟨fun a U g mk q => by obtain ⟨q0, q1, qP, qK, qD, qS⟩ := q; exact ⟨q0, q1, qP, va_K.moved (u := U) (U := U.calling g mk a) (Vm.Alike.refl U.vm) qK, qD, SZ.same rfl rfl qS⟩, va_recv hK hP (ci := 4) (q0 := krd) rfl e_1486, fun U hU hW => ⟨rfl, by rw [hU], by rw [hU]; exact hP, va_K.moved hW.alike hK, hD.weaken (fun _ _ _ _ => trivial), hsz9.go hS hW hU hFc⟩⟩ rfl rfl hl.1 rfl (lv_room (Nat.le_of_ble_eq_true rfl)) dX4_readTest_88 ⟨Nat.le_of_ble_eq_true rfl, Nat.le_of_ble_eq_true rfl⟩) hS (fun q _ h => hFc q h) hFc (fun r_1495 u t H1 locs ht hvm w_1496 hB hz1 hk1 hS => ?_)
          obtain ⟨ws_1497, ty_1498, hm_1499, ht_1501, hP1, hK1, hD1, hx_1500⟩ := hB
          rw [ht] at hP1
          have hK := va_K.moved hvm.symm hK1
          have hD := hD1.weaken (fun _ _ _ h => hFc _ h)
          generalize H1 = H at hP1 hS ⊢
          have hP := hP1
          obtain ⟨g_1503, e_1502, h_1504⟩ := hm_1499.obj e_1486
          obtain ⟨z_1505, z_1506, z_1507, z_1508, z_1509, z_1510, rfl⟩ := smX4 h_1504
          obtain ⟨g_1512, e_1511, h_1513⟩ := hm_1499.obj e_1487
          obtain ⟨z_1514, z_1515, z_1516, z_1517, rfl⟩ := smX6 h_1513
          obtain ⟨f_1519, e_1518⟩ := hm_1499.arrI e_1488
          have u_1520 := ht_1501 _ _ u_1490
          obtain ⟨f_1522, e_1521⟩ := hm_1499.arrI e_1491
          have u_1523 := ht_1501 _ _ u_1493
          have hsm := hsm.tr (hm_1499.mono (by decide))
          have htx := htx.tr ht_1501
          obtain ⟨ts_1524, te_1525, cc_1526, ra_1527, rb_1528, rc_1529, rv_1530, re_1531, ya_1532, h1_1533, h2_1534, h3_1535, h4_1536, er_1537, et_1538, wr_1539, wt_1540, ⟨k_1541, c9_1542, t_1543, f_1544, e_1545, u_1546, w_1547⟩, ⟨k_1548, c9_1549, t_1550, f_1551, e_1552, u_1553, w_1554⟩⟩ := id hx_1500
          subst w_1496
          exact W.zret (v := 0) hx hb hr rfl (fun t ht hW => ⟨⟨0, (), rfl, Or.inl rfl, ws_1497, ty_1498, hsm, htx, by rw [ht]; exact hP, va_K.moved hW.alike hK, hD, (⟨ts_1524, te_1525, cc_1526, ra_1527, rb_1528, rc_1529, rv_1530, re_1531, ya_1532, by omega, by omega, by omega, by omega, er_1537, et_1538, wr_1539, wt_1540, ⟨k_1541, c9_1542, t_1543, f_1544, e_1545, u_1546, w_1547⟩, ⟨k_1548, c9_1549, t_1550, f_1551, e_1552, u_1553, w_1554⟩⟩ : RS ρ ws_1497 ty_1498 rd krd tp ktp cd bb tl)⟩, hS.F ht⟩) hS.2.2 dX4_readTest_91
        refine lv_if_ne (tgt := 92) hx hb dX4_readTest_84 (by decide) (fun c_1555 => ?_) (fun c_1555 => absurd c_1555 (by decide))
        refine lv_aload_n hx hb dX4_readTest_92 rfl (lv_at hl 2 rfl) ?_
        refine va_get (D := D) (ci := 4) (v := .ref tp) (C := RX4) (T := TX4) (N := 8) hx hb hts hin4 hown hK hP krd e_1486 rfl 0 (by decide) (hts (.fieldLink RX4 12 "HoneyHouse$RuleReader" "tape" "LHoneyHouse$Tape;") (List.mem_of_getElem? (i := 1) rfl)) (fun _ h9 => h9) rfl dX4_readTest_93 ?_
        have hFc := free_all hD hS hA
        refine va_callv (va_runV (As := []) (rest := []) ⟨hx, hb, hml, hown, hts⟩ (a_advance l D ρ ws_1481 ty_1482 tp ktp tl te_1430 ya_1437 (nI ts_1429) bb k_1453 c9_1454 t_1455 f_1492 H.size (by omega) (by omega) e_1487 e_1491 u_1493 wt_1445) (cwV 0 hts gX4_readTest_X6_advance rfl rfl rfl (by decide +kernel) ⟨Nat.le_of_ble_eq_true rfl, Nat.le_of_ble_eq_true rfl⟩) ⟨fun a U g mk q => by obtain ⟨q0, q1, qP, qK, qD⟩ := q; exact ⟨q0, q1, qP, va_K.moved (u := U) (U := U.calling g mk a) (Vm.Alike.refl U.vm) qK, qD⟩, va_recv hK hP (ci := 6) (q0 := ktp) rfl e_1487, fun U hU hW => ⟨rfl, by rw [hU], by rw [hU]; exact hP, va_K.moved hW.alike hK, hD.weaken (fun _ _ _ _ => trivial)⟩⟩ rfl rfl hl.1 rfl (lv_room (Nat.le_of_ble_eq_true rfl)) dX4_readTest_96 ⟨Nat.le_of_ble_eq_true rfl, Nat.le_of_ble_eq_true rfl⟩) hS (fun q _ h => hFc q h) hFc (fun u t H1 locs ht hvm w_1557 hB hz1 hk1 hS => ?_)
        obtain ⟨ws_1558, ty_1559, hm_1560, ht_1562, hP1, hK1, hD1, hx_1561⟩ := hB
        rw [ht] at hP1
        have hK := va_K.moved hvm.symm hK1
        have hD := hD1.weaken (fun _ _ _ h => hFc _ h)
        generalize H1 = H at hP1 hS ⊢
        have hP := hP1
        have e_1563 := hm_1560.objK e_1486 (by decide)
        obtain ⟨g_1565, e_1564, h_1566⟩ := hm_1560.obj e_1487
        obtain ⟨z_1567, z_1568, z_1569, z_1570, rfl⟩ := smX6 h_1566
        obtain ⟨f_1572, e_1571⟩ := hm_1560.arrI e_1488
        have u_1573 := ht_1562 _ _ u_1490
        obtain ⟨f_1575, e_1574⟩ := hm_1560.arrI e_1491
        have u_1576 := ht_1562 _ _ u_1493
        have hsm := hsm.tr (hm_1560.mono (by decide))
        have htx := htx.tr ht_1562
        obtain ⟨k_1577, s_1578, e_1579, h_1580, h_1581, h_1582, e_1583⟩ := hx_1561
        refine lv_aload_n hx hb dX4_readTest_99 rfl (lv_at hl 2 rfl) ?_
        refine lv_sipush (v := 1000) hx hb dX4_readTest_100 (by decide) ?_
        have hFc := free_all hD hS hA
        refine va_calli (va_runV (As := [.int 1000]) (rest := []) ⟨hx, hb, hml, hown, hts⟩ (r_readNumber l D ρ ws_1558 ty_1559 adK adV fo rd krd tp ktp cd bb tl 1000 H.size (⟨s_1578, e_1579, cc_1431, ra_1432, rb_1433, rc_1434, rv_1435, re_1436, nI k_1577, by omega, by omega, by omega, by omega, e_1563, e_1583, wr_1444, wt_1445, ⟨k_1446, c9_1447, t_1448, f_1572, e_1571, u_1573, w_1452⟩, ⟨k_1453, c9_1454, t_1455, f_1575, e_1574, u_1576, w_1459⟩⟩ : RS ρ ws_1558 ty_1559 rd krd tp ktp cd bb tl)) (cwV 1 hts gX4_readTest_X4_readNumber rfl rfl rfl (by decide +kernel) ⟨Nat.le_of_ble_eq_true rfl, Nat.le_of_ble_eq_true rfl⟩) ⟨fun a U g mk q => by obtain ⟨q0, q1, qP, qK, qD, qS⟩ := q; exact ⟨q0, q1, qP, va_K.moved (u := U) (U := U.calling g mk a) (Vm.Alike.refl U.vm) qK, qD, SZ.same rfl rfl qS⟩, va_recv hK hP (ci := 4) (q0 := krd) rfl e_1563, fun U hU hW => ⟨rfl, by rw [hU], by rw [hU]; exact hP, va_K.moved hW.alike hK, hD.weaken (fun _ _ _ _ => trivial), hsz9.go hS hW hU hFc⟩⟩ rfl rfl hl.1 rfl (lv_room (Nat.le_of_ble_eq_true rfl)) dX4_readTest_103 ⟨Nat.le_of_ble_eq_true rfl, Nat.le_of_ble_eq_true rfl⟩) hS (fun q _ h => hFc q h) hFc (fun r_1584 u t H1 locs ht hvm w_1585 hB hz1 hk1 hS => ?_)
        obtain ⟨ws_1586, ty_1587, hm_1588, ht_1590, hP1, hK1, hD1, hx_1589⟩ := hB
        rw [ht] at hP1
        have hK := va_K.moved hvm.symm hK1
        have hD := hD1.weaken (fun _ _ _ h => hFc _ h)
        generalize H1 = H at hP1 hS ⊢
        have hP := hP1
        obtain ⟨g_1592, e_1591, h_1593⟩ := hm_1588.obj e_1563
        obtain ⟨z_1594, z_1595, z_1596, z_1597, z_1598, z_1599, rfl⟩ := smX4 h_1593
        obtain ⟨g_1601, e_1600, h_1602⟩ := hm_1588.obj e_1583
        obtain ⟨z_1603, z_1604, z_1605, z_1606, rfl⟩ := smX6 h_1602
        obtain ⟨f_1608, e_1607⟩ := hm_1588.arrI e_1571
        have u_1609 := ht_1590 _ _ u_1573
        obtain ⟨f_1611, e_1610⟩ := hm_1588.arrI e_1574
        have u_1612 := ht_1590 _ _ u_1576
        have hsm := hsm.tr (hm_1588.mono (by decide))
        have htx := htx.tr ht_1590
        obtain ⟨ts_1613, te_1614, cc_1615, ra_1616, rb_1617, rc_1618, rv_1619, re_1620, ya_1621, h1_1622, h2_1623, h3_1624, h4_1625, er_1626, et_1627, wr_1628, wt_1629, ⟨k_1630, c9_1631, t_1632, f_1633, e_1634, u_1635, w_1636⟩, ⟨k_1637, c9_1638, t_1639, f_1640, e_1641, u_1642, w_1643⟩⟩ := id hx_1589
        rcases w_1585 with rfl | rfl
        · refine lv_if_ne (tgt := 111) hx hb dX4_readTest_106 (by decide) (fun c_1644 => absurd (by decide) c_1644) (fun c_1644 => ?_)
          refine lv_iconst (v := 0) hx hb dX4_readTest_109 (by decide) ?_
          exact W.zret (v := 0) hx hb hr rfl (fun t ht hW => ⟨⟨0, (), rfl, Or.inl rfl, ws_1586, ty_1587, hsm, htx, by rw [ht]; exact hP, va_K.moved hW.alike hK, hD, (⟨ts_1613, te_1614, cc_1615, ra_1616, rb_1617, rc_1618, rv_1619, re_1620, ya_1621, by omega, by omega, by omega, by omega, er_1626, et_1627, wr_1628, wt_1629, ⟨k_1630, c9_1631, t_1632, f_1633, e_1634, u_1635, w_1636⟩, ⟨k_1637, c9_1638, t_1639, f_1640, e_1641, u_1642, w_1643⟩⟩ : RS ρ ws_1586 ty_1587 rd krd tp ktp cd bb tl)⟩, hS.F ht⟩) hS.2.2 dX4_readTest_110
        refine lv_if_ne (tgt := 111) hx hb dX4_readTest_106 (by decide) (fun c_1645 => ?_) (fun c_1645 => absurd c_1645 (by decide))
        refine lv_aload_n hx hb dX4_readTest_111 rfl (lv_at hl 2 rfl) ?_
        refine lv_iload_n hx hb dX4_readTest_112 rfl (lv_at hl 1 rfl) ?_
        refine lv_iload_n hx hb dX4_readTest_113 rfl (lv_at hl 0 rfl) ?_
        refine lv_aload_n hx hb dX4_readTest_114 rfl (lv_at hl 2 rfl) ?_
        refine va_get (D := D) (ci := 4) (v := .int re_1620) (C := RX4) (T := TX4) (N := 8) hx hb hts hin4 hown hK hP krd er_1626 rfl 7 (by decide) (hts (.fieldLink RX4 56 "HoneyHouse$RuleReader" "value" "I") (List.mem_of_getElem? (i := 2) rfl)) (fun _ h9 => h9) rfl dX4_readTest_115 ?_
        refine vp_callSi (W.runS (As := [.int z_1462, .int 0, .int re_1620]) (rest := [.ref rd]) ⟨hx, hb, hml, hown, hts⟩ (s_testCode l z_1462 0 re_1620) (va_cwS 3 hts gX4_readTest_X4_testCode rfl rfl rfl (by decide +kernel) ⟨Nat.le_of_ble_eq_true rfl, Nat.le_of_ble_eq_true rfl⟩) ⟨fun a U g mk q => q, fun U hU hW => ⟨rfl, trivial⟩⟩ rfl rfl hl.1 rfl (lv_room (Nat.le_of_ble_eq_true rfl)) dX4_readTest_118 ⟨Nat.le_of_ble_eq_true rfl, Nat.le_of_ble_eq_true rfl⟩) (fun r_1646 k_1647 => ?_)
        have hFc := free_all hD hS hA
        refine va_callv (va_runV (As := [.int r_1646]) (rest := []) ⟨hx, hb, hml, hown, hts⟩ (r_addCode l D ρ ws_1586 ty_1587 adK adV fo rd krd tp ktp cd bb tl r_1646 H.size (⟨ts_1613, te_1614, cc_1615, ra_1616, rb_1617, rc_1618, rv_1619, re_1620, ya_1621, by omega, by omega, by omega, by omega, er_1626, et_1627, wr_1628, wt_1629, ⟨k_1630, c9_1631, t_1632, f_1633, e_1634, u_1635, w_1636⟩, ⟨k_1637, c9_1638, t_1639, f_1640, e_1641, u_1642, w_1643⟩⟩ : RS ρ ws_1586 ty_1587 rd krd tp ktp cd bb tl)) (cwV 1 hts gX4_readTest_X4_addCode rfl rfl rfl (by decide +kernel) ⟨Nat.le_of_ble_eq_true rfl, Nat.le_of_ble_eq_true rfl⟩) ⟨fun a U g mk q => by obtain ⟨q0, q1, qP, qK, qD, qS⟩ := q; exact ⟨q0, q1, qP, va_K.moved (u := U) (U := U.calling g mk a) (Vm.Alike.refl U.vm) qK, qD, SZ.same rfl rfl qS⟩, va_recv hK hP (ci := 4) (q0 := krd) rfl er_1626, fun U hU hW => ⟨rfl, by rw [hU], by rw [hU]; exact hP, va_K.moved hW.alike hK, hD.weaken (fun _ _ _ _ => trivial), hsz9.go hS hW hU hFc⟩⟩ rfl rfl hl.1 rfl (lv_room (Nat.le_of_ble_eq_true rfl)) dX4_readTest_121 ⟨Nat.le_of_ble_eq_true rfl, Nat.le_of_ble_eq_true rfl⟩) hS (fun q _ h => hFc q h) hFc (fun u t H1 locs ht hvm w_1649 hB hz1 hk1 hS => ?_)
        obtain ⟨ws_1650, ty_1651, hm_1652, ht_1654, hP1, hK1, hD1, hx_1653⟩ := hB
        rw [ht] at hP1
        have hK := va_K.moved hvm.symm hK1
        have hD := hD1.weaken (fun _ _ _ h => hFc _ h)
        generalize H1 = H at hP1 hS ⊢
        have hP := hP1
        obtain ⟨g_1656, e_1655, h_1657⟩ := hm_1652.obj er_1626
        obtain ⟨z_1658, z_1659, z_1660, z_1661, z_1662, z_1663, rfl⟩ := smX4 h_1657
        obtain ⟨g_1665, e_1664, h_1666⟩ := hm_1652.obj et_1627
        obtain ⟨z_1667, z_1668, z_1669, z_1670, rfl⟩ := smX6 h_1666
        obtain ⟨f_1672, e_1671⟩ := hm_1652.arrI e_1634
        have u_1673 := ht_1654 _ _ u_1635
        obtain ⟨f_1675, e_1674⟩ := hm_1652.arrI e_1641
        have u_1676 := ht_1654 _ _ u_1642
        have hsm := hsm.tr (hm_1652.mono (by decide))
        have htx := htx.tr ht_1654
        obtain ⟨ts_1677, te_1678, cc_1679, ra_1680, rb_1681, rc_1682, rv_1683, re_1684, ya_1685, h1_1686, h2_1687, h3_1688, h4_1689, er_1690, et_1691, wr_1692, wt_1693, ⟨k_1694, c9_1695, t_1696, f_1697, e_1698, u_1699, w_1700⟩, ⟨k_1701, c9_1702, t_1703, f_1704, e_1705, u_1706, w_1707⟩⟩ := id hx_1653
        refine lv_iconst (v := 1) hx hb dX4_readTest_124 (by decide) ?_
        exact W.zret (v := 1) hx hb hr rfl (fun t ht hW => ⟨⟨1, (), rfl, Or.inr rfl, ws_1650, ty_1651, hsm, htx, by rw [ht]; exact hP, va_K.moved hW.alike hK, hD, (⟨ts_1677, te_1678, cc_1679, ra_1680, rb_1681, rc_1682, rv_1683, re_1684, ya_1685, by omega, by omega, by omega, by omega, er_1690, et_1691, wr_1692, wt_1693, ⟨k_1694, c9_1695, t_1696, f_1697, e_1698, u_1699, w_1700⟩, ⟨k_1701, c9_1702, t_1703, f_1704, e_1705, u_1706, w_1707⟩⟩ : RS ρ ws_1650 ty_1651 rd krd tp ktp cd bb tl)⟩, hS.F ht⟩) hS.2.2 dX4_readTest_125
      refine lv_istore_n (lv' := [(2, .int 1), (1, .int z_1462), (0, .ref rd)]) hx hb dX4_readTest_70 rfl hl (by decide) rfl (fun ls hl => ?_)
      refine lv_iload_n hx hb dX4_readTest_71 rfl (lv_at hl 0 rfl) ?_
      refine lv_if_ne (tgt := 92) hx hb dX4_readTest_72 (by decide) (fun c_1708 => ?_) (fun c_1708 => absurd c_1708 (by decide))
      refine lv_aload_n hx hb dX4_readTest_92 rfl (lv_at hl 2 rfl) ?_
      refine va_get (D := D) (ci := 4) (v := .ref tp) (C := RX4) (T := TX4) (N := 8) hx hb hts hin4 hown hK hP krd e_1470 rfl 0 (by decide) (hts (.fieldLink RX4 12 "HoneyHouse$RuleReader" "tape" "LHoneyHouse$Tape;") (List.mem_of_getElem? (i := 1) rfl)) (fun _ h9 => h9) rfl dX4_readTest_93 ?_
      have hFc := free_all hD hS hA
      refine va_callv (va_runV (As := []) (rest := []) ⟨hx, hb, hml, hown, hts⟩ (a_advance l D ρ ws_1465 ty_1466 tp ktp tl te_1430 ya_1437 (nI ts_1429) bb k_1453 c9_1454 t_1455 f_1476 H.size (by omega) (by omega) e_1471 e_1475 u_1477 wt_1445) (cwV 0 hts gX4_readTest_X6_advance rfl rfl rfl (by decide +kernel) ⟨Nat.le_of_ble_eq_true rfl, Nat.le_of_ble_eq_true rfl⟩) ⟨fun a U g mk q => by obtain ⟨q0, q1, qP, qK, qD⟩ := q; exact ⟨q0, q1, qP, va_K.moved (u := U) (U := U.calling g mk a) (Vm.Alike.refl U.vm) qK, qD⟩, va_recv hK hP (ci := 6) (q0 := ktp) rfl e_1471, fun U hU hW => ⟨rfl, by rw [hU], by rw [hU]; exact hP, va_K.moved hW.alike hK, hD.weaken (fun _ _ _ _ => trivial)⟩⟩ rfl rfl hl.1 rfl (lv_room (Nat.le_of_ble_eq_true rfl)) dX4_readTest_96 ⟨Nat.le_of_ble_eq_true rfl, Nat.le_of_ble_eq_true rfl⟩) hS (fun q _ h => hFc q h) hFc (fun u t H1 locs ht hvm w_1710 hB hz1 hk1 hS => ?_)
      obtain ⟨ws_1711, ty_1712, hm_1713, ht_1715, hP1, hK1, hD1, hx_1714⟩ := hB
      rw [ht] at hP1
      have hK := va_K.moved hvm.symm hK1
      have hD := hD1.weaken (fun _ _ _ h => hFc _ h)
      generalize H1 = H at hP1 hS ⊢
      have hP := hP1
      have e_1716 := hm_1713.objK e_1470 (by decide)
      obtain ⟨g_1718, e_1717, h_1719⟩ := hm_1713.obj e_1471
      obtain ⟨z_1720, z_1721, z_1722, z_1723, rfl⟩ := smX6 h_1719
      obtain ⟨f_1725, e_1724⟩ := hm_1713.arrI e_1472
      have u_1726 := ht_1715 _ _ u_1474
      obtain ⟨f_1728, e_1727⟩ := hm_1713.arrI e_1475
      have u_1729 := ht_1715 _ _ u_1477
      have hsm := hsm.tr (hm_1713.mono (by decide))
      have htx := htx.tr ht_1715
      obtain ⟨k_1730, s_1731, e_1732, h_1733, h_1734, h_1735, e_1736⟩ := hx_1714
      refine lv_aload_n hx hb dX4_readTest_99 rfl (lv_at hl 2 rfl) ?_
      refine lv_sipush (v := 1000) hx hb dX4_readTest_100 (by decide) ?_
      have hFc := free_all hD hS hA
      refine va_calli (va_runV (As := [.int 1000]) (rest := []) ⟨hx, hb, hml, hown, hts⟩ (r_readNumber l D ρ ws_1711 ty_1712 adK adV fo rd krd tp ktp cd bb tl 1000 H.size (⟨s_1731, e_1732, cc_1431, ra_1432, rb_1433, rc_1434, rv_1435, re_1436, nI k_1730, by omega, by omega, by omega, by omega, e_1716, e_1736, wr_1444, wt_1445, ⟨k_1446, c9_1447, t_1448, f_1725, e_1724, u_1726, w_1452⟩, ⟨k_1453, c9_1454, t_1455, f_1728, e_1727, u_1729, w_1459⟩⟩ : RS ρ ws_1711 ty_1712 rd krd tp ktp cd bb tl)) (cwV 1 hts gX4_readTest_X4_readNumber rfl rfl rfl (by decide +kernel) ⟨Nat.le_of_ble_eq_true rfl, Nat.le_of_ble_eq_true rfl⟩) ⟨fun a U g mk q => by obtain ⟨q0, q1, qP, qK, qD, qS⟩ := q; exact ⟨q0, q1, qP, va_K.moved (u := U) (U := U.calling g mk a) (Vm.Alike.refl U.vm) qK, qD, SZ.same rfl rfl qS⟩, va_recv hK hP (ci := 4) (q0 := krd) rfl e_1716, fun U hU hW => ⟨rfl, by rw [hU], by rw [hU]; exact hP, va_K.moved hW.alike hK, hD.weaken (fun _ _ _ _ => trivial), hsz9.go hS hW hU hFc⟩⟩ rfl rfl hl.1 rfl (lv_room (Nat.le_of_ble_eq_true rfl)) dX4_readTest_103 ⟨Nat.le_of_ble_eq_true rfl, Nat.le_of_ble_eq_true rfl⟩) hS (fun q _ h => hFc q h) hFc (fun r_1737 u t H1 locs ht hvm w_1738 hB hz1 hk1 hS => ?_)
      obtain ⟨ws_1739, ty_1740, hm_1741, ht_1743, hP1, hK1, hD1, hx_1742⟩ := hB
      rw [ht] at hP1
      have hK := va_K.moved hvm.symm hK1
      have hD := hD1.weaken (fun _ _ _ h => hFc _ h)
      generalize H1 = H at hP1 hS ⊢
      have hP := hP1
      obtain ⟨g_1745, e_1744, h_1746⟩ := hm_1741.obj e_1716
      obtain ⟨z_1747, z_1748, z_1749, z_1750, z_1751, z_1752, rfl⟩ := smX4 h_1746
      obtain ⟨g_1754, e_1753, h_1755⟩ := hm_1741.obj e_1736
      obtain ⟨z_1756, z_1757, z_1758, z_1759, rfl⟩ := smX6 h_1755
      obtain ⟨f_1761, e_1760⟩ := hm_1741.arrI e_1724
      have u_1762 := ht_1743 _ _ u_1726
      obtain ⟨f_1764, e_1763⟩ := hm_1741.arrI e_1727
      have u_1765 := ht_1743 _ _ u_1729
      have hsm := hsm.tr (hm_1741.mono (by decide))
      have htx := htx.tr ht_1743
      obtain ⟨ts_1766, te_1767, cc_1768, ra_1769, rb_1770, rc_1771, rv_1772, re_1773, ya_1774, h1_1775, h2_1776, h3_1777, h4_1778, er_1779, et_1780, wr_1781, wt_1782, ⟨k_1783, c9_1784, t_1785, f_1786, e_1787, u_1788, w_1789⟩, ⟨k_1790, c9_1791, t_1792, f_1793, e_1794, u_1795, w_1796⟩⟩ := id hx_1742
      rcases w_1738 with rfl | rfl
      · refine lv_if_ne (tgt := 111) hx hb dX4_readTest_106 (by decide) (fun c_1797 => absurd (by decide) c_1797) (fun c_1797 => ?_)
        refine lv_iconst (v := 0) hx hb dX4_readTest_109 (by decide) ?_
        exact W.zret (v := 0) hx hb hr rfl (fun t ht hW => ⟨⟨0, (), rfl, Or.inl rfl, ws_1739, ty_1740, hsm, htx, by rw [ht]; exact hP, va_K.moved hW.alike hK, hD, (⟨ts_1766, te_1767, cc_1768, ra_1769, rb_1770, rc_1771, rv_1772, re_1773, ya_1774, by omega, by omega, by omega, by omega, er_1779, et_1780, wr_1781, wt_1782, ⟨k_1783, c9_1784, t_1785, f_1786, e_1787, u_1788, w_1789⟩, ⟨k_1790, c9_1791, t_1792, f_1793, e_1794, u_1795, w_1796⟩⟩ : RS ρ ws_1739 ty_1740 rd krd tp ktp cd bb tl)⟩, hS.F ht⟩) hS.2.2 dX4_readTest_110
      refine lv_if_ne (tgt := 111) hx hb dX4_readTest_106 (by decide) (fun c_1798 => ?_) (fun c_1798 => absurd c_1798 (by decide))
      refine lv_aload_n hx hb dX4_readTest_111 rfl (lv_at hl 2 rfl) ?_
      refine lv_iload_n hx hb dX4_readTest_112 rfl (lv_at hl 1 rfl) ?_
      refine lv_iload_n hx hb dX4_readTest_113 rfl (lv_at hl 0 rfl) ?_
      refine lv_aload_n hx hb dX4_readTest_114 rfl (lv_at hl 2 rfl) ?_
      refine va_get (D := D) (ci := 4) (v := .int re_1773) (C := RX4) (T := TX4) (N := 8) hx hb hts hin4 hown hK hP krd er_1779 rfl 7 (by decide) (hts (.fieldLink RX4 56 "HoneyHouse$RuleReader" "value" "I") (List.mem_of_getElem? (i := 2) rfl)) (fun _ h9 => h9) rfl dX4_readTest_115 ?_
      refine vp_callSi (W.runS (As := [.int z_1462, .int 1, .int re_1773]) (rest := [.ref rd]) ⟨hx, hb, hml, hown, hts⟩ (s_testCode l z_1462 1 re_1773) (va_cwS 3 hts gX4_readTest_X4_testCode rfl rfl rfl (by decide +kernel) ⟨Nat.le_of_ble_eq_true rfl, Nat.le_of_ble_eq_true rfl⟩) ⟨fun a U g mk q => q, fun U hU hW => ⟨rfl, trivial⟩⟩ rfl rfl hl.1 rfl (lv_room (Nat.le_of_ble_eq_true rfl)) dX4_readTest_118 ⟨Nat.le_of_ble_eq_true rfl, Nat.le_of_ble_eq_true rfl⟩) (fun r_1799 k_1800 => ?_)
      have hFc := free_all hD hS hA
      refine va_callv (va_runV (As := [.int r_1799]) (rest := []) ⟨hx, hb, hml, hown, hts⟩ (r_addCode l D ρ ws_1739 ty_1740 adK adV fo rd krd tp ktp cd bb tl r_1799 H.size (⟨ts_1766, te_1767, cc_1768, ra_1769, rb_1770, rc_1771, rv_1772, re_1773, ya_1774, by omega, by omega, by omega, by omega, er_1779, et_1780, wr_1781, wt_1782, ⟨k_1783, c9_1784, t_1785, f_1786, e_1787, u_1788, w_1789⟩, ⟨k_1790, c9_1791, t_1792, f_1793, e_1794, u_1795, w_1796⟩⟩ : RS ρ ws_1739 ty_1740 rd krd tp ktp cd bb tl)) (cwV 1 hts gX4_readTest_X4_addCode rfl rfl rfl (by decide +kernel) ⟨Nat.le_of_ble_eq_true rfl, Nat.le_of_ble_eq_true rfl⟩) ⟨fun a U g mk q => by obtain ⟨q0, q1, qP, qK, qD, qS⟩ := q; exact ⟨q0, q1, qP, va_K.moved (u := U) (U := U.calling g mk a) (Vm.Alike.refl U.vm) qK, qD, SZ.same rfl rfl qS⟩, va_recv hK hP (ci := 4) (q0 := krd) rfl er_1779, fun U hU hW => ⟨rfl, by rw [hU], by rw [hU]; exact hP, va_K.moved hW.alike hK, hD.weaken (fun _ _ _ _ => trivial), hsz9.go hS hW hU hFc⟩⟩ rfl rfl hl.1 rfl (lv_room (Nat.le_of_ble_eq_true rfl)) dX4_readTest_121 ⟨Nat.le_of_ble_eq_true rfl, Nat.le_of_ble_eq_true rfl⟩) hS (fun q _ h => hFc q h) hFc (fun u t H1 locs ht hvm w_1802 hB hz1 hk1 hS => ?_)
      obtain ⟨ws_1803, ty_1804, hm_1805, ht_1807, hP1, hK1, hD1, hx_1806⟩ := hB
      rw [ht] at hP1
      have hK := va_K.moved hvm.symm hK1
      have hD := hD1.weaken (fun _ _ _ h => hFc _ h)
      generalize H1 = H at hP1 hS ⊢
      have hP := hP1
      obtain ⟨g_1809, e_1808, h_1810⟩ := hm_1805.obj er_1779
      obtain ⟨z_1811, z_1812, z_1813, z_1814, z_1815, z_1816, rfl⟩ := smX4 h_1810
      obtain ⟨g_1818, e_1817, h_1819⟩ := hm_1805.obj et_1780
      obtain ⟨z_1820, z_1821, z_1822, z_1823, rfl⟩ := smX6 h_1819
      obtain ⟨f_1825, e_1824⟩ := hm_1805.arrI e_1787
      have u_1826 := ht_1807 _ _ u_1788
      obtain ⟨f_1828, e_1827⟩ := hm_1805.arrI e_1794
      have u_1829 := ht_1807 _ _ u_1795
      have hsm := hsm.tr (hm_1805.mono (by decide))
      have htx := htx.tr ht_1807
      obtain ⟨ts_1830, te_1831, cc_1832, ra_1833, rb_1834, rc_1835, rv_1836, re_1837, ya_1838, h1_1839, h2_1840, h3_1841, h4_1842, er_1843, et_1844, wr_1845, wt_1846, ⟨k_1847, c9_1848, t_1849, f_1850, e_1851, u_1852, w_1853⟩, ⟨k_1854, c9_1855, t_1856, f_1857, e_1858, u_1859, w_1860⟩⟩ := id hx_1806
      refine lv_iconst (v := 1) hx hb dX4_readTest_124 (by decide) ?_
      exact W.zret (v := 1) hx hb hr rfl (fun t ht hW => ⟨⟨1, (), rfl, Or.inr rfl, ws_1803, ty_1804, hsm, htx, by rw [ht]; exact hP, va_K.moved hW.alike hK, hD, (⟨ts_1830, te_1831, cc_1832, ra_1833, rb_1834, rc_1835, rv_1836, re_1837, ya_1838, by omega, by omega, by omega, by omega, er_1843, et_1844, wr_1845, wt_1846, ⟨k_1847, c9_1848, t_1849, f_1850, e_1851, u_1852, w_1853⟩, ⟨k_1854, c9_1855, t_1856, f_1857, e_1858, u_1859, w_1860⟩⟩ : RS ρ ws_1803 ty_1804 rd krd tp ktp cd bb tl)⟩, hS.F ht⟩) hS.2.2 dX4_readTest_125
    refine lv_iconst (v := 3) hx hb dX4_readTest_41 (by decide) ?_
    refine lv_goto (tgt := 46) hx hb dX4_readTest_42 (by decide) ?_
    have hFc := free_all hD hS hA
    refine va_calli (va_runV (As := [.int 3]) (rest := []) ⟨hx, hb, hml, hown, hts⟩ (r_readNumber l D ρ ws_50 ty_51 adK adV fo rd krd tp ktp cd bb tl 3 H.size (⟨s_70, e_71, cc_3, ra_4, rb_5, rc_6, rv_7, re_8, nI k_69, by omega, by omega, by omega, by omega, e_55, e_75, wr_16, wt_17, ⟨k_18, c9_19, t_20, f_64, e_63, u_65, w_24⟩, ⟨k_25, c9_26, t_27, f_67, e_66, u_68, w_31⟩⟩ : RS ρ ws_50 ty_51 rd krd tp ktp cd bb tl)) (cwV 1 hts gX4_readTest_X4_readNumber rfl rfl rfl (by decide +kernel) ⟨Nat.le_of_ble_eq_true rfl, Nat.le_of_ble_eq_true rfl⟩) ⟨fun a U g mk q => by obtain ⟨q0, q1, qP, qK, qD, qS⟩ := q; exact ⟨q0, q1, qP, va_K.moved (u := U) (U := U.calling g mk a) (Vm.Alike.refl U.vm) qK, qD, SZ.same rfl rfl qS⟩, va_recv hK hP (ci := 4) (q0 := krd) rfl e_55, fun U hU hW => ⟨rfl, by rw [hU], by rw [hU]; exact hP, va_K.moved hW.alike hK, hD.weaken (fun _ _ _ _ => trivial), hsz9.go hS hW hU hFc⟩⟩ rfl rfl hl.1 rfl (lv_room (Nat.le_of_ble_eq_true rfl)) dX4_readTest_46 ⟨Nat.le_of_ble_eq_true rfl, Nat.le_of_ble_eq_true rfl⟩) hS (fun q _ h => hFc q h) hFc (fun r_1861 u t H1 locs ht hvm w_1862 hB hz1 hk1 hS => ?_)
    obtain ⟨ws_1863, ty_1864, hm_1865, ht_1867, hP1, hK1, hD1, hx_1866⟩ := hB
    rw [ht] at hP1
    have hK := va_K.moved hvm.symm hK1
    have hD := hD1.weaken (fun _ _ _ h => hFc _ h)
    generalize H1 = H at hP1 hS ⊢
    have hP := hP1
    obtain ⟨g_1869, e_1868, h_1870⟩ := hm_1865.obj e_55
    obtain ⟨z_1871, z_1872, z_1873, z_1874, z_1875, z_1876, rfl⟩ := smX4 h_1870
    obtain ⟨g_1878, e_1877, h_1879⟩ := hm_1865.obj e_75
    obtain ⟨z_1880, z_1881, z_1882, z_1883, rfl⟩ := smX6 h_1879
    obtain ⟨f_1885, e_1884⟩ := hm_1865.arrI e_63
    have u_1886 := ht_1867 _ _ u_65
    obtain ⟨f_1888, e_1887⟩ := hm_1865.arrI e_66
    have u_1889 := ht_1867 _ _ u_68
    have hsm := hsm.tr (hm_1865.mono (by decide))
    have htx := htx.tr ht_1867
    obtain ⟨ts_1890, te_1891, cc_1892, ra_1893, rb_1894, rc_1895, rv_1896, re_1897, ya_1898, h1_1899, h2_1900, h3_1901, h4_1902, er_1903, et_1904, wr_1905, wt_1906, ⟨k_1907, c9_1908, t_1909, f_1910, e_1911, u_1912, w_1913⟩, ⟨k_1914, c9_1915, t_1916, f_1917, e_1918, u_1919, w_1920⟩⟩ := id hx_1866
    rcases w_1862 with rfl | rfl
    · refine lv_if_ne (tgt := 54) hx hb dX4_readTest_49 (by decide) (fun c_1921 => absurd (by decide) c_1921) (fun c_1921 => ?_)
      refine lv_iconst (v := 0) hx hb dX4_readTest_52 (by decide) ?_
      exact W.zret (v := 0) hx hb hr rfl (fun t ht hW => ⟨⟨0, (), rfl, Or.inl rfl, ws_1863, ty_1864, hsm, htx, by rw [ht]; exact hP, va_K.moved hW.alike hK, hD, (⟨ts_1890, te_1891, cc_1892, ra_1893, rb_1894, rc_1895, rv_1896, re_1897, ya_1898, by omega, by omega, by omega, by omega, er_1903, et_1904, wr_1905, wt_1906, ⟨k_1907, c9_1908, t_1909, f_1910, e_1911, u_1912, w_1913⟩, ⟨k_1914, c9_1915, t_1916, f_1917, e_1918, u_1919, w_1920⟩⟩ : RS ρ ws_1863 ty_1864 rd krd tp ktp cd bb tl)⟩, hS.F ht⟩) hS.2.2 dX4_readTest_53
    refine lv_if_ne (tgt := 54) hx hb dX4_readTest_49 (by decide) (fun c_1922 => ?_) (fun c_1922 => absurd c_1922 (by decide))
    refine lv_iload_n hx hb dX4_readTest_54 rfl (lv_at hl 0 rfl) ?_
    refine lv_aload_n hx hb dX4_readTest_55 rfl (lv_at hl 1 rfl) ?_
    refine va_get (D := D) (ci := 4) (v := .int re_1897) (C := RX4) (T := TX4) (N := 8) hx hb hts hin4 hown hK hP krd er_1903 rfl 7 (by decide) (hts (.fieldLink RX4 56 "HoneyHouse$RuleReader" "value" "I") (List.mem_of_getElem? (i := 2) rfl)) (fun _ h9 => h9) rfl dX4_readTest_56 ?_
    refine lv_iadd hx hb dX4_readTest_59 ?_
    refine lv_topi (fun z_1923 _ => ?_)
    refine lv_istore_n (lv' := [(1, .int z_1923), (0, .ref rd)]) hx hb dX4_readTest_60 rfl hl (by decide) rfl (fun ls hl => ?_)
    refine lv_aload_n hx hb dX4_readTest_61 rfl (lv_at hl 1 rfl) ?_
    refine va_get (D := D) (ci := 4) (v := .ref tp) (C := RX4) (T := TX4) (N := 8) hx hb hts hin4 hown hK hP krd er_1903 rfl 0 (by decide) (hts (.fieldLink RX4 12 "HoneyHouse$RuleReader" "tape" "LHoneyHouse$Tape;") (List.mem_of_getElem? (i := 1) rfl)) (fun _ h9 => h9) rfl dX4_readTest_62 ?_
    refine va_ldcS hx hb hown hsz9.2.2.2.2.2.2.2.2.1 dX4_readTest_65 ?_
    have hFc := free_all hD hS hA
    refine va_calli (va_runV (As := [.ref (adK 5)]) (rest := []) ⟨hx, hb, hml, hown, hts⟩ (a_isWord l D ρ ws_1863 ty_1864 adK adV fo 5 tp ktp tl ya_1898 (nI ts_1890) (nI te_1891) bb k_1914 c9_1915 t_1916 f_1917 H.size (by decide) et_1904 e_1918 u_1919) (cwV 1 hts gX4_readTest_X6_isWord rfl rfl rfl (by decide +kernel) ⟨Nat.le_of_ble_eq_true rfl, Nat.le_of_ble_eq_true rfl⟩) ⟨fun a U g mk q => by obtain ⟨q0, q1, qP, qK, qD, qS⟩ := q; exact ⟨q0, q1, qP, va_K.moved (u := U) (U := U.calling g mk a) (Vm.Alike.refl U.vm) qK, qD, SZ.same rfl rfl qS⟩, va_recv hK hP (ci := 6) (q0 := ktp) rfl et_1904, fun U hU hW => ⟨rfl, by rw [hU], by rw [hU]; exact hP, va_K.moved hW.alike hK, hD.weaken (fun _ _ _ _ => trivial), hsz9.go hS hW hU hFc⟩⟩ rfl rfl hl.1 rfl (lv_room (Nat.le_of_ble_eq_true rfl)) dX4_readTest_67 ⟨Nat.le_of_ble_eq_true rfl, Nat.le_of_ble_eq_true rfl⟩) hS (fun q _ h => hFc q h) hFc (fun r_1924 u t H1 locs ht hvm w_1925 hB hz1 hk1 hS => ?_)
    obtain ⟨ws_1926, ty_1927, hm_1928, ht_1930, hP1, hK1, hD1, hx_1929⟩ := hB
    rw [ht] at hP1
    have hK := va_K.moved hvm.symm hK1
    have hD := hD1.weaken (fun _ _ _ h => hFc _ h)
    generalize H1 = H at hP1 hS ⊢
    have hP := hP1
    have e_1931 := hm_1928.objK er_1903 (by decide)
    have e_1932 := hm_1928.objK et_1904 (by decide)
    obtain ⟨f_1934, e_1933⟩ := hm_1928.arrI e_1911
    have u_1935 := ht_1930 _ _ u_1912
    obtain ⟨f_1937, e_1936⟩ := hm_1928.arrI e_1918
    have u_1938 := ht_1930 _ _ u_1919
    have hsm := hsm.tr (hm_1928.mono (by decide))
    have htx := htx.tr ht_1930
    rcases w_1925 with rfl | rfl
    · refine lv_istore_n (lv' := [(2, .int 0), (1, .int z_1923), (0, .ref rd)]) hx hb dX4_readTest_70 rfl hl (by decide) rfl (fun ls hl => ?_)
      refine lv_iload_n hx hb dX4_readTest_71 rfl (lv_at hl 0 rfl) ?_
      refine lv_if_ne (tgt := 92) hx hb dX4_readTest_72 (by decide) (fun c_1939 => absurd (by decide) c_1939) (fun c_1939 => ?_)
      refine lv_aload_n hx hb dX4_readTest_75 rfl (lv_at hl 2 rfl) ?_
      refine va_get (D := D) (ci := 4) (v := .ref tp) (C := RX4) (T := TX4) (N := 8) hx hb hts hin4 hown hK hP krd e_1931 rfl 0 (by decide) (hts (.fieldLink RX4 12 "HoneyHouse$RuleReader" "tape" "LHoneyHouse$Tape;") (List.mem_of_getElem? (i := 1) rfl)) (fun _ h9 => h9) rfl dX4_readTest_76 ?_
      refine va_ldcS hx hb hown hsz9.2.2.2.2.2.2.2.1 dX4_readTest_79 ?_
      have hFc := free_all hD hS hA
      refine va_calli (va_runV (As := [.ref (adK 4)]) (rest := []) ⟨hx, hb, hml, hown, hts⟩ (a_isWord l D ρ ws_1926 ty_1927 adK adV fo 4 tp ktp tl ya_1898 (nI ts_1890) (nI te_1891) bb k_1914 c9_1915 t_1916 f_1937 H.size (by decide) e_1932 e_1936 u_1938) (cwV 1 hts gX4_readTest_X6_isWord rfl rfl rfl (by decide +kernel) ⟨Nat.le_of_ble_eq_true rfl, Nat.le_of_ble_eq_true rfl⟩) ⟨fun a U g mk q => by obtain ⟨q0, q1, qP, qK, qD, qS⟩ := q; exact ⟨q0, q1, qP, va_K.moved (u := U) (U := U.calling g mk a) (Vm.Alike.refl U.vm) qK, qD, SZ.same rfl rfl qS⟩, va_recv hK hP (ci := 6) (q0 := ktp) rfl e_1932, fun U hU hW => ⟨rfl, by rw [hU], by rw [hU]; exact hP, va_K.moved hW.alike hK, hD.weaken (fun _ _ _ _ => trivial), hsz9.go hS hW hU hFc⟩⟩ rfl rfl hl.1 rfl (lv_room (Nat.le_of_ble_eq_true rfl)) dX4_readTest_81 ⟨Nat.le_of_ble_eq_true rfl, Nat.le_of_ble_eq_true rfl⟩) hS (fun q _ h => hFc q h) hFc (fun r_1940 u t H1 locs ht hvm w_1941 hB hz1 hk1 hS => ?_)
      obtain ⟨ws_1942, ty_1943, hm_1944, ht_1946, hP1, hK1, hD1, hx_1945⟩ := hB
      rw [ht] at hP1
      have hK := va_K.moved hvm.symm hK1
      have hD := hD1.weaken (fun _ _ _ h => hFc _ h)
      generalize H1 = H at hP1 hS ⊢
      have hP := hP1
      have e_1947 := hm_1944.objK e_1931 (by decide)
      have e_1948 := hm_1944.objK e_1932 (by decide)
      obtain ⟨f_1950, e_1949⟩ := hm_1944.arrI e_1933
      have u_1951 := ht_1946 _ _ u_1935
      obtain ⟨f_1953, e_1952⟩ := hm_1944.arrI e_1936
      have u_1954 := ht_1946 _ _ u_1938
      have hsm := hsm.tr (hm_1944.mono (by decide))
      have htx := htx.tr ht_1946
      rcases w_1941 with rfl | rfl
      · refine lv_if_ne (tgt := 92) hx hb dX4_readTest_84 (by decide) (fun c_1955 => absurd (by decide) c_1955) (fun c_1955 => ?_)
        refine lv_aload_n hx hb dX4_readTest_87 rfl (lv_at hl 2 rfl) ?_
        have hFc := free_all hD hS hA
        refine va_calli (va_runV (As := []) (rest := []) ⟨hx, hb, hml, hown, hts⟩ (r_failHere l D ρ ws_1942 ty_1943 adK adV fo rd krd tp ktp cd bb tl  H.size (⟨ts_1890, te_1891, cc_1892, ra_1893, rb_1894, rc_1895, rv_1896, re_1897, ya_1898, by omega, by omega, by omega, by omega, e_1947, e_1948, wr_1905, wt_1906, ⟨k_1907, c9_1908, t_1909, f_1950, e_1949, u_1951, w_1913⟩, ⟨k_1914, c9_1915, t_1916, f_1953, e_1952, u_1954, w_1920⟩⟩ : RS ρ ws_1942 ty_1943 rd krd tp ktp cd bb tl)) (cwV 0 hts gX4_readTest_X4_failHere rfl rfl rfl (by decide +kernel) ⟨Nat.le_of_ble_eq_true rfl, Nat.le_of_ble_eq_true rfl⟩) ⟨fun a U g mk q => by obtain ⟨q0, q1, qP, qK, qD, qS⟩ := q; exact ⟨q0, q1, qP, va_K.moved (u := U) (U := U.calling g mk a) (Vm.Alike.refl U.vm) qK, qD, SZ.same rfl rfl qS⟩, va_recv hK hP (ci := 4) (q0 := krd) rfl e_1947, fun U hU hW => ⟨rfl, by rw [hU], by rw [hU]; exact hP, va_K.moved hW.alike hK, hD.weaken (fun _ _ _ _ => trivial), hsz9.go hS hW hU hFc⟩⟩ rfl rfl hl.1 rfl (lv_room (Nat.le_of_ble_eq_true rfl)) dX4_readTest_88 ⟨Nat.le_of_ble_eq_true rfl, Nat.le_of_ble_eq_true rfl⟩) hS (fun q _ h => hFc q h) hFc (fun r_1956 u t H1 locs ht hvm w_1957 hB hz1 hk1 hS => ?_)
        obtain ⟨ws_1958, ty_1959, hm_1960, ht_1962, hP1, hK1, hD1, hx_1961⟩ := hB
        rw [ht] at hP1
        have hK := va_K.moved hvm.symm hK1
        have hD := hD1.weaken (fun _ _ _ h => hFc _ h)
        generalize H1 = H at hP1 hS ⊢
        have hP := hP1
        obtain ⟨g_1964, e_1963, h_1965⟩ := hm_1960.obj e_1947
        obtain ⟨z_1966, z_1967, z_1968, z_1969, z_1970, z_1971, rfl⟩ := smX4 h_1965
        obtain ⟨g_1973, e_1972, h_1974⟩ := hm_1960.obj e_1948
        obtain ⟨z_1975, z_1976, z_1977, z_1978, rfl⟩ := smX6 h_1974
        obtain ⟨f_1980, e_1979⟩ := hm_1960.arrI e_1949
        have u_1981 := ht_1962 _ _ u_1951
        obtain ⟨f_1983, e_1982⟩ := hm_1960.arrI e_1952
        have u_1984 := ht_1962 _ _ u_1954
        have hsm := hsm.tr (hm_1960.mono (by decide))
        have htx := htx.tr ht_1962
        obtain ⟨ts_1985, te_1986, cc_1987, ra_1988, rb_1989, rc_1990, rv_1991, re_1992, ya_1993, h1_1994, h2_1995, h3_1996, h4_1997, er_1998, et_1999, wr_2000, wt_2001, ⟨k_2002, c9_2003, t_2004, f_2005, e_2006, u_2007, w_2008⟩, ⟨k_2009, c9_2010, t_2011, f_2012, e_2013, u_2014, w_2015⟩⟩ := id hx_1961
        subst w_1957
        exact W.zret (v := 0) hx hb hr rfl (fun t ht hW => ⟨⟨0, (), rfl, Or.inl rfl, ws_1958, ty_1959, hsm, htx, by rw [ht]; exact hP, va_K.moved hW.alike hK, hD, (⟨ts_1985, te_1986, cc_1987, ra_1988, rb_1989, rc_1990, rv_1991, re_1992, ya_1993, by omega, by omega, by omega, by omega, er_1998, et_1999, wr_2000, wt_2001, ⟨k_2002, c9_2003, t_2004, f_2005, e_2006, u_2007, w_2008⟩, ⟨k_2009, c9_2010, t_2011, f_2012, e_2013, u_2014, w_2015⟩⟩ : RS ρ ws_1958 ty_1959 rd krd tp ktp cd bb tl)⟩, hS.F ht⟩) hS.2.2 dX4_readTest_91
      refine lv_if_ne (tgt := 92) hx hb dX4_readTest_84 (by decide) (fun c_2016 => ?_) (fun c_2016 => absurd c_2016 (by decide))
      refine lv_aload_n hx hb dX4_readTest_92 rfl (lv_at hl 2 rfl) ?_
      refine va_get (D := D) (ci := 4) (v := .ref tp) (C := RX4) (T := TX4) (N := 8) hx hb hts hin4 hown hK hP krd e_1947 rfl 0 (by decide) (hts (.fieldLink RX4 12 "HoneyHouse$RuleReader" "tape" "LHoneyHouse$Tape;") (List.mem_of_getElem? (i := 1) rfl)) (fun _ h9 => h9) rfl dX4_readTest_93 ?_
      have hFc := free_all hD hS hA
      refine va_callv (va_runV (As := []) (rest := []) ⟨hx, hb, hml, hown, hts⟩ (a_advance l D ρ ws_1942 ty_1943 tp ktp tl te_1891 ya_1898 (nI ts_1890) bb k_1914 c9_1915 t_1916 f_1953 H.size (by omega) (by omega) e_1948 e_1952 u_1954 wt_1906) (cwV 0 hts gX4_readTest_X6_advance rfl rfl rfl (by decide +kernel) ⟨Nat.le_of_ble_eq_true rfl, Nat.le_of_ble_eq_true rfl⟩) ⟨fun a U g mk q => by obtain ⟨q0, q1, qP, qK, qD⟩ := q; exact ⟨q0, q1, qP, va_K.moved (u := U) (U := U.calling g mk a) (Vm.Alike.refl U.vm) qK, qD⟩, va_recv hK hP (ci := 6) (q0 := ktp) rfl e_1948, fun U hU hW => ⟨rfl, by rw [hU], by rw [hU]; exact hP, va_K.moved hW.alike hK, hD.weaken (fun _ _ _ _ => trivial)⟩⟩ rfl rfl hl.1 rfl (lv_room (Nat.le_of_ble_eq_true rfl)) dX4_readTest_96 ⟨Nat.le_of_ble_eq_true rfl, Nat.le_of_ble_eq_true rfl⟩) hS (fun q _ h => hFc q h) hFc (fun u t H1 locs ht hvm w_2018 hB hz1 hk1 hS => ?_)
      obtain ⟨ws_2019, ty_2020, hm_2021, ht_2023, hP1, hK1, hD1, hx_2022⟩ := hB
      rw [ht] at hP1
      have hK := va_K.moved hvm.symm hK1
      have hD := hD1.weaken (fun _ _ _ h => hFc _ h)
      generalize H1 = H at hP1 hS ⊢
      have hP := hP1
      have e_2024 := hm_2021.objK e_1947 (by decide)
      obtain ⟨g_2026, e_2025, h_2027⟩ := hm_2021.obj e_1948
      obtain ⟨z_2028, z_2029, z_2030, z_2031, rfl⟩ := smX6 h_2027
      obtain ⟨f_2033, e_2032⟩ := hm_2021.arrI e_1949
      have u_2034 := ht_2023 _ _ u_1951
      obtain ⟨f_2036, e_2035⟩ := hm_2021.arrI e_1952
      have u_2037 := ht_2023 _ _ u_1954
      have hsm := hsm.tr (hm_2021.mono (by decide))
      have htx := htx.tr ht_2023
      obtain ⟨k_2038, s_2039, e_2040, h_2041, h_2042, h_2043, e_2044⟩ := hx_2022
      refine lv_aload_n hx hb dX4_readTest_99 rfl (lv_at hl 2 rfl) ?_
      refine lv_sipush (v := 1000) hx hb dX4_readTest_100 (by decide) ?_
      have hFc := free_all hD hS hA
      refine va_calli (va_runV (As := [.int 1000]) (rest := []) ⟨hx, hb, hml, hown, hts⟩ (r_readNumber l D ρ ws_2019 ty_2020 adK adV fo rd krd tp ktp cd bb tl 1000 H.size (⟨s_2039, e_2040, cc_1892, ra_1893, rb_1894, rc_1895, rv_1896, re_1897, nI k_2038, by omega, by omega, by omega, by omega, e_2024, e_2044, wr_1905, wt_1906, ⟨k_1907, c9_1908, t_1909, f_2033, e_2032, u_2034, w_1913⟩, ⟨k_1914, c9_1915, t_1916, f_2036, e_2035, u_2037, w_1920⟩⟩ : RS ρ ws_2019 ty_2020 rd krd tp ktp cd bb tl)) (cwV 1 hts gX4_readTest_X4_readNumber rfl rfl rfl (by decide +kernel) ⟨Nat.le_of_ble_eq_true rfl, Nat.le_of_ble_eq_true rfl⟩) ⟨fun a U g mk q => by obtain ⟨q0, q1, qP, qK, qD, qS⟩ := q; exact ⟨q0, q1, qP, va_K.moved (u := U) (U := U.calling g mk a) (Vm.Alike.refl U.vm) qK, qD, SZ.same rfl rfl qS⟩, va_recv hK hP (ci := 4) (q0 := krd) rfl e_2024, fun U hU hW => ⟨rfl, by rw [hU], by rw [hU]; exact hP, va_K.moved hW.alike hK, hD.weaken (fun _ _ _ _ => trivial), hsz9.go hS hW hU hFc⟩⟩ rfl rfl hl.1 rfl (lv_room (Nat.le_of_ble_eq_true rfl)) dX4_readTest_103 ⟨Nat.le_of_ble_eq_true rfl, Nat.le_of_ble_eq_true rfl⟩) hS (fun q _ h => hFc q h) hFc (fun r_2045 u t H1 locs ht hvm w_2046 hB hz1 hk1 hS => ?_)
      obtain ⟨ws_2047, ty_2048, hm_2049, ht_2051, hP1, hK1, hD1, hx_2050⟩ := hB
      rw [ht] at hP1
      have hK := va_K.moved hvm.symm hK1
      have hD := hD1.weaken (fun _ _ _ h => hFc _ h)
      generalize H1 = H at hP1 hS ⊢
      have hP := hP1
      obtain ⟨g_2053, e_2052, h_2054⟩ := hm_2049.obj e_2024
      obtain ⟨z_2055, z_2056, z_2057, z_2058, z_2059, z_2060, rfl⟩ := smX4 h_2054
      obtain ⟨g_2062, e_2061, h_2063⟩ := hm_2049.obj e_2044
      obtain ⟨z_2064, z_2065, z_2066, z_2067, rfl⟩ := smX6 h_2063
      obtain ⟨f_2069, e_2068⟩ := hm_2049.arrI e_2032
      have u_2070 := ht_2051 _ _ u_2034
      obtain ⟨f_2072, e_2071⟩ := hm_2049.arrI e_2035
      have u_2073 := ht_2051 _ _ u_2037
      have hsm := hsm.tr (hm_2049.mono (by decide))
      have htx := htx.tr ht_2051
      obtain ⟨ts_2074, te_2075, cc_2076, ra_2077, rb_2078, rc_2079, rv_2080, re_2081, ya_2082, h1_2083, h2_2084, h3_2085, h4_2086, er_2087, et_2088, wr_2089, wt_2090, ⟨k_2091, c9_2092, t_2093, f_2094, e_2095, u_2096, w_2097⟩, ⟨k_2098, c9_2099, t_2100, f_2101, e_2102, u_2103, w_2104⟩⟩ := id hx_2050
      rcases w_2046 with rfl | rfl
      · refine lv_if_ne (tgt := 111) hx hb dX4_readTest_106 (by decide) (fun c_2105 => absurd (by decide) c_2105) (fun c_2105 => ?_)
        refine lv_iconst (v := 0) hx hb dX4_readTest_109 (by decide) ?_
        exact W.zret (v := 0) hx hb hr rfl (fun t ht hW => ⟨⟨0, (), rfl, Or.inl rfl, ws_2047, ty_2048, hsm, htx, by rw [ht]; exact hP, va_K.moved hW.alike hK, hD, (⟨ts_2074, te_2075, cc_2076, ra_2077, rb_2078, rc_2079, rv_2080, re_2081, ya_2082, by omega, by omega, by omega, by omega, er_2087, et_2088, wr_2089, wt_2090, ⟨k_2091, c9_2092, t_2093, f_2094, e_2095, u_2096, w_2097⟩, ⟨k_2098, c9_2099, t_2100, f_2101, e_2102, u_2103, w_2104⟩⟩ : RS ρ ws_2047 ty_2048 rd krd tp ktp cd bb tl)⟩, hS.F ht⟩) hS.2.2 dX4_readTest_110
      refine lv_if_ne (tgt := 111) hx hb dX4_readTest_106 (by decide) (fun c_2106 => ?_) (fun c_2106 => absurd c_2106 (by decide))
      refine lv_aload_n hx hb dX4_readTest_111 rfl (lv_at hl 2 rfl) ?_
      refine lv_iload_n hx hb dX4_readTest_112 rfl (lv_at hl 1 rfl) ?_
      refine lv_iload_n hx hb dX4_readTest_113 rfl (lv_at hl 0 rfl) ?_
      refine lv_aload_n hx hb dX4_readTest_114 rfl (lv_at hl 2 rfl) ?_
      refine va_get (D := D) (ci := 4) (v := .int re_2081) (C := RX4) (T := TX4) (N := 8) hx hb hts hin4 hown hK hP krd er_2087 rfl 7 (by decide) (hts (.fieldLink RX4 56 "HoneyHouse$RuleReader" "value" "I") (List.mem_of_getElem? (i := 2) rfl)) (fun _ h9 => h9) rfl dX4_readTest_115 ?_
      refine vp_callSi (W.runS (As := [.int z_1923, .int 0, .int re_2081]) (rest := [.ref rd]) ⟨hx, hb, hml, hown, hts⟩ (s_testCode l z_1923 0 re_2081) (va_cwS 3 hts gX4_readTest_X4_testCode rfl rfl rfl (by decide +kernel) ⟨Nat.le_of_ble_eq_true rfl, Nat.le_of_ble_eq_true rfl⟩) ⟨fun a U g mk q => q, fun U hU hW => ⟨rfl, trivial⟩⟩ rfl rfl hl.1 rfl (lv_room (Nat.le_of_ble_eq_true rfl)) dX4_readTest_118 ⟨Nat.le_of_ble_eq_true rfl, Nat.le_of_ble_eq_true rfl⟩) (fun r_2107 k_2108 => ?_)
      have hFc := free_all hD hS hA
      refine va_callv (va_runV (As := [.int r_2107]) (rest := []) ⟨hx, hb, hml, hown, hts⟩ (r_addCode l D ρ ws_2047 ty_2048 adK adV fo rd krd tp ktp cd bb tl r_2107 H.size (⟨ts_2074, te_2075, cc_2076, ra_2077, rb_2078, rc_2079, rv_2080, re_2081, ya_2082, by omega, by omega, by omega, by omega, er_2087, et_2088, wr_2089, wt_2090, ⟨k_2091, c9_2092, t_2093, f_2094, e_2095, u_2096, w_2097⟩, ⟨k_2098, c9_2099, t_2100, f_2101, e_2102, u_2103, w_2104⟩⟩ : RS ρ ws_2047 ty_2048 rd krd tp ktp cd bb tl)) (cwV 1 hts gX4_readTest_X4_addCode rfl rfl rfl (by decide +kernel) ⟨Nat.le_of_ble_eq_true rfl, Nat.le_of_ble_eq_true rfl⟩) ⟨fun a U g mk q => by obtain ⟨q0, q1, qP, qK, qD, qS⟩ := q; exact ⟨q0, q1, qP, va_K.moved (u := U) (U := U.calling g mk a) (Vm.Alike.refl U.vm) qK, qD, SZ.same rfl rfl qS⟩, va_recv hK hP (ci := 4) (q0 := krd) rfl er_2087, fun U hU hW => ⟨rfl, by rw [hU], by rw [hU]; exact hP, va_K.moved hW.alike hK, hD.weaken (fun _ _ _ _ => trivial), hsz9.go hS hW hU hFc⟩⟩ rfl rfl hl.1 rfl (lv_room (Nat.le_of_ble_eq_true rfl)) dX4_readTest_121 ⟨Nat.le_of_ble_eq_true rfl, Nat.le_of_ble_eq_true rfl⟩) hS (fun q _ h => hFc q h) hFc (fun u t H1 locs ht hvm w_2110 hB hz1 hk1 hS => ?_)
      obtain ⟨ws_2111, ty_2112, hm_2113, ht_2115, hP1, hK1, hD1, hx_2114⟩ := hB
      rw [ht] at hP1
      have hK := va_K.moved hvm.symm hK1
      have hD := hD1.weaken (fun _ _ _ h => hFc _ h)
      generalize H1 = H at hP1 hS ⊢
      have hP := hP1
      obtain ⟨g_2117, e_2116, h_2118⟩ := hm_2113.obj er_2087
      obtain ⟨z_2119, z_2120, z_2121, z_2122, z_2123, z_2124, rfl⟩ := smX4 h_2118
      obtain ⟨g_2126, e_2125, h_2127⟩ := hm_2113.obj et_2088
      obtain ⟨z_2128, z_2129, z_2130, z_2131, rfl⟩ := smX6 h_2127
      obtain ⟨f_2133, e_2132⟩ := hm_2113.arrI e_2095
      have u_2134 := ht_2115 _ _ u_2096
      obtain ⟨f_2136, e_2135⟩ := hm_2113.arrI e_2102
      have u_2137 := ht_2115 _ _ u_2103
      have hsm := hsm.tr (hm_2113.mono (by decide))
      have htx := htx.tr ht_2115
      obtain ⟨ts_2138, te_2139, cc_2140, ra_2141, rb_2142, rc_2143, rv_2144, re_2145, ya_2146, h1_2147, h2_2148, h3_2149, h4_2150, er_2151, et_2152, wr_2153, wt_2154, ⟨k_2155, c9_2156, t_2157, f_2158, e_2159, u_2160, w_2161⟩, ⟨k_2162, c9_2163, t_2164, f_2165, e_2166, u_2167, w_2168⟩⟩ := id hx_2114
      refine lv_iconst (v := 1) hx hb dX4_readTest_124 (by decide) ?_
      exact W.zret (v := 1) hx hb hr rfl (fun t ht hW => ⟨⟨1, (), rfl, Or.inr rfl, ws_2111, ty_2112, hsm, htx, by rw [ht]; exact hP, va_K.moved hW.alike hK, hD, (⟨ts_2138, te_2139, cc_2140, ra_2141, rb_2142, rc_2143, rv_2144, re_2145, ya_2146, by omega, by omega, by omega, by omega, er_2151, et_2152, wr_2153, wt_2154, ⟨k_2155, c9_2156, t_2157, f_2158, e_2159, u_2160, w_2161⟩, ⟨k_2162, c9_2163, t_2164, f_2165, e_2166, u_2167, w_2168⟩⟩ : RS ρ ws_2111 ty_2112 rd krd tp ktp cd bb tl)⟩, hS.F ht⟩) hS.2.2 dX4_readTest_125
    refine lv_istore_n (lv' := [(2, .int 1), (1, .int z_1923), (0, .ref rd)]) hx hb dX4_readTest_70 rfl hl (by decide) rfl (fun ls hl => ?_)
    refine lv_iload_n hx hb dX4_readTest_71 rfl (lv_at hl 0 rfl) ?_
    refine lv_if_ne (tgt := 92) hx hb dX4_readTest_72 (by decide) (fun c_2169 => ?_) (fun c_2169 => absurd c_2169 (by decide))
    refine lv_aload_n hx hb dX4_readTest_92 rfl (lv_at hl 2 rfl) ?_
    refine va_get (D := D) (ci := 4) (v := .ref tp) (C := RX4) (T := TX4) (N := 8) hx hb hts hin4 hown hK hP krd e_1931 rfl 0 (by decide) (hts (.fieldLink RX4 12 "HoneyHouse$RuleReader" "tape" "LHoneyHouse$Tape;") (List.mem_of_getElem? (i := 1) rfl)) (fun _ h9 => h9) rfl dX4_readTest_93 ?_
    have hFc := free_all hD hS hA
    refine va_callv (va_runV (As := []) (rest := []) ⟨hx, hb, hml, hown, hts⟩ (a_advance l D ρ ws_1926 ty_1927 tp ktp tl te_1891 ya_1898 (nI ts_1890) bb k_1914 c9_1915 t_1916 f_1937 H.size (by omega) (by omega) e_1932 e_1936 u_1938 wt_1906) (cwV 0 hts gX4_readTest_X6_advance rfl rfl rfl (by decide +kernel) ⟨Nat.le_of_ble_eq_true rfl, Nat.le_of_ble_eq_true rfl⟩) ⟨fun a U g mk q => by obtain ⟨q0, q1, qP, qK, qD⟩ := q; exact ⟨q0, q1, qP, va_K.moved (u := U) (U := U.calling g mk a) (Vm.Alike.refl U.vm) qK, qD⟩, va_recv hK hP (ci := 6) (q0 := ktp) rfl e_1932, fun U hU hW => ⟨rfl, by rw [hU], by rw [hU]; exact hP, va_K.moved hW.alike hK, hD.weaken (fun _ _ _ _ => trivial)⟩⟩ rfl rfl hl.1 rfl (lv_room (Nat.le_of_ble_eq_true rfl)) dX4_readTest_96 ⟨Nat.le_of_ble_eq_true rfl, Nat.le_of_ble_eq_true rfl⟩) hS (fun q _ h => hFc q h) hFc (fun u t H1 locs ht hvm w_2171 hB hz1 hk1 hS => ?_)
    obtain ⟨ws_2172, ty_2173, hm_2174, ht_2176, hP1, hK1, hD1, hx_2175⟩ := hB
    rw [ht] at hP1
    have hK := va_K.moved hvm.symm hK1
    have hD := hD1.weaken (fun _ _ _ h => hFc _ h)
    generalize H1 = H at hP1 hS ⊢
    have hP := hP1
    have e_2177 := hm_2174.objK e_1931 (by decide)
    obtain ⟨g_2179, e_2178, h_2180⟩ := hm_2174.obj e_1932
    obtain ⟨z_2181, z_2182, z_2183, z_2184, rfl⟩ := smX6 h_2180
    obtain ⟨f_2186, e_2185⟩ := hm_2174.arrI e_1933
    have u_2187 := ht_2176 _ _ u_1935
    obtain ⟨f_2189, e_2188⟩ := hm_2174.arrI e_1936
    have u_2190 := ht_2176 _ _ u_1938
    have hsm := hsm.tr (hm_2174.mono (by decide))
    have htx := htx.tr ht_2176
    obtain ⟨k_2191, s_2192, e_2193, h_2194, h_2195, h_2196, e_2197⟩ := hx_2175
    refine lv_aload_n hx hb dX4_readTest_99 rfl (lv_at hl 2 rfl) ?_
    refine lv_sipush (v := 1000) hx hb dX4_readTest_100 (by decide) ?_
    have hFc := free_all hD hS hA
    refine va_calli (va_runV (As := [.int 1000]) (rest := []) ⟨hx, hb, hml, hown, hts⟩ (r_readNumber l D ρ ws_2172 ty_2173 adK adV fo rd krd tp ktp cd bb tl 1000 H.size (⟨s_2192, e_2193, cc_1892, ra_1893, rb_1894, rc_1895, rv_1896, re_1897, nI k_2191, by omega, by omega, by omega, by omega, e_2177, e_2197, wr_1905, wt_1906, ⟨k_1907, c9_1908, t_1909, f_2186, e_2185, u_2187, w_1913⟩, ⟨k_1914, c9_1915, t_1916, f_2189, e_2188, u_2190, w_1920⟩⟩ : RS ρ ws_2172 ty_2173 rd krd tp ktp cd bb tl)) (cwV 1 hts gX4_readTest_X4_readNumber rfl rfl rfl (by decide +kernel) ⟨Nat.le_of_ble_eq_true rfl, Nat.le_of_ble_eq_true rfl⟩) ⟨fun a U g mk q => by obtain ⟨q0, q1, qP, qK, qD, qS⟩ := q; exact ⟨q0, q1, qP, va_K.moved (u := U) (U := U.calling g mk a) (Vm.Alike.refl U.vm) qK, qD, SZ.same rfl rfl qS⟩, va_recv hK hP (ci := 4) (q0 := krd) rfl e_2177, fun U hU hW => ⟨rfl, by rw [hU], by rw [hU]; exact hP, va_K.moved hW.alike hK, hD.weaken (fun _ _ _ _ => trivial), hsz9.go hS hW hU hFc⟩⟩ rfl rfl hl.1 rfl (lv_room (Nat.le_of_ble_eq_true rfl)) dX4_readTest_103 ⟨Nat.le_of_ble_eq_true rfl, Nat.le_of_ble_eq_true rfl⟩) hS (fun q _ h => hFc q h) hFc (fun r_2198 u t H1 locs ht hvm w_2199 hB hz1 hk1 hS => ?_)
    obtain ⟨ws_2200, ty_2201, hm_2202, ht_2204, hP1, hK1, hD1, hx_2203⟩ := hB
    rw [ht] at hP1
    have hK := va_K.moved hvm.symm hK1
    have hD := hD1.weaken (fun _ _ _ h => hFc _ h)
    generalize H1 = H at hP1 hS ⊢
    have hP := hP1
    obtain ⟨g_2206, e_2205, h_2207⟩ := hm_2202.obj e_2177
    obtain ⟨z_2208, z_2209, z_2210, z_2211, z_2212, z_2213, rfl⟩ := smX4 h_2207
    obtain ⟨g_2215, e_2214, h_2216⟩ := hm_2202.obj e_2197
    obtain ⟨z_2217, z_2218, z_2219, z_2220, rfl⟩ := smX6 h_2216
    obtain ⟨f_2222, e_2221⟩ := hm_2202.arrI e_2185
    have u_2223 := ht_2204 _ _ u_2187
    obtain ⟨f_2225, e_2224⟩ := hm_2202.arrI e_2188
    have u_2226 := ht_2204 _ _ u_2190
    have hsm := hsm.tr (hm_2202.mono (by decide))
    have htx := htx.tr ht_2204
    obtain ⟨ts_2227, te_2228, cc_2229, ra_2230, rb_2231, rc_2232, rv_2233, re_2234, ya_2235, h1_2236, h2_2237, h3_2238, h4_2239, er_2240, et_2241, wr_2242, wt_2243, ⟨k_2244, c9_2245, t_2246, f_2247, e_2248, u_2249, w_2250⟩, ⟨k_2251, c9_2252, t_2253, f_2254, e_2255, u_2256, w_2257⟩⟩ := id hx_2203
    rcases w_2199 with rfl | rfl
    · refine lv_if_ne (tgt := 111) hx hb dX4_readTest_106 (by decide) (fun c_2258 => absurd (by decide) c_2258) (fun c_2258 => ?_)
      refine lv_iconst (v := 0) hx hb dX4_readTest_109 (by decide) ?_
      exact W.zret (v := 0) hx hb hr rfl (fun t ht hW => ⟨⟨0, (), rfl, Or.inl rfl, ws_2200, ty_2201, hsm, htx, by rw [ht]; exact hP, va_K.moved hW.alike hK, hD, (⟨ts_2227, te_2228, cc_2229, ra_2230, rb_2231, rc_2232, rv_2233, re_2234, ya_2235, by omega, by omega, by omega, by omega, er_2240, et_2241, wr_2242, wt_2243, ⟨k_2244, c9_2245, t_2246, f_2247, e_2248, u_2249, w_2250⟩, ⟨k_2251, c9_2252, t_2253, f_2254, e_2255, u_2256, w_2257⟩⟩ : RS ρ ws_2200 ty_2201 rd krd tp ktp cd bb tl)⟩, hS.F ht⟩) hS.2.2 dX4_readTest_110
    refine lv_if_ne (tgt := 111) hx hb dX4_readTest_106 (by decide) (fun c_2259 => ?_) (fun c_2259 => absurd c_2259 (by decide))
    refine lv_aload_n hx hb dX4_readTest_111 rfl (lv_at hl 2 rfl) ?_
    refine lv_iload_n hx hb dX4_readTest_112 rfl (lv_at hl 1 rfl) ?_
    refine lv_iload_n hx hb dX4_readTest_113 rfl (lv_at hl 0 rfl) ?_
    refine lv_aload_n hx hb dX4_readTest_114 rfl (lv_at hl 2 rfl) ?_
    refine va_get (D := D) (ci := 4) (v := .int re_2234) (C := RX4) (T := TX4) (N := 8) hx hb hts hin4 hown hK hP krd er_2240 rfl 7 (by decide) (hts (.fieldLink RX4 56 "HoneyHouse$RuleReader" "value" "I") (List.mem_of_getElem? (i := 2) rfl)) (fun _ h9 => h9) rfl dX4_readTest_115 ?_
    refine vp_callSi (W.runS (As := [.int z_1923, .int 1, .int re_2234]) (rest := [.ref rd]) ⟨hx, hb, hml, hown, hts⟩ (s_testCode l z_1923 1 re_2234) (va_cwS 3 hts gX4_readTest_X4_testCode rfl rfl rfl (by decide +kernel) ⟨Nat.le_of_ble_eq_true rfl, Nat.le_of_ble_eq_true rfl⟩) ⟨fun a U g mk q => q, fun U hU hW => ⟨rfl, trivial⟩⟩ rfl rfl hl.1 rfl (lv_room (Nat.le_of_ble_eq_true rfl)) dX4_readTest_118 ⟨Nat.le_of_ble_eq_true rfl, Nat.le_of_ble_eq_true rfl⟩) (fun r_2260 k_2261 => ?_)
    have hFc := free_all hD hS hA
    refine va_callv (va_runV (As := [.int r_2260]) (rest := []) ⟨hx, hb, hml, hown, hts⟩ (r_addCode l D ρ ws_2200 ty_2201 adK adV fo rd krd tp ktp cd bb tl r_2260 H.size (⟨ts_2227, te_2228, cc_2229, ra_2230, rb_2231, rc_2232, rv_2233, re_2234, ya_2235, by omega, by omega, by omega, by omega, er_2240, et_2241, wr_2242, wt_2243, ⟨k_2244, c9_2245, t_2246, f_2247, e_2248, u_2249, w_2250⟩, ⟨k_2251, c9_2252, t_2253, f_2254, e_2255, u_2256, w_2257⟩⟩ : RS ρ ws_2200 ty_2201 rd krd tp ktp cd bb tl)) (cwV 1 hts gX4_readTest_X4_addCode rfl rfl rfl (by decide +kernel) ⟨Nat.le_of_ble_eq_true rfl, Nat.le_of_ble_eq_true rfl⟩) ⟨fun a U g mk q => by obtain ⟨q0, q1, qP, qK, qD, qS⟩ := q; exact ⟨q0, q1, qP, va_K.moved (u := U) (U := U.calling g mk a) (Vm.Alike.refl U.vm) qK, qD, SZ.same rfl rfl qS⟩, va_recv hK hP (ci := 4) (q0 := krd) rfl er_2240, fun U hU hW => ⟨rfl, by rw [hU], by rw [hU]; exact hP, va_K.moved hW.alike hK, hD.weaken (fun _ _ _ _ => trivial), hsz9.go hS hW hU hFc⟩⟩ rfl rfl hl.1 rfl (lv_room (Nat.le_of_ble_eq_true rfl)) dX4_readTest_121 ⟨Nat.le_of_ble_eq_true rfl, Nat.le_of_ble_eq_true rfl⟩) hS (fun q _ h => hFc q h) hFc (fun u t H1 locs ht hvm w_2263 hB hz1 hk1 hS => ?_)
    obtain ⟨ws_2264, ty_2265, hm_2266, ht_2268, hP1, hK1, hD1, hx_2267⟩ := hB
    rw [ht] at hP1
    have hK := va_K.moved hvm.symm hK1
    have hD := hD1.weaken (fun _ _ _ h => hFc _ h)
    generalize H1 = H at hP1 hS ⊢
    have hP := hP1
    obtain ⟨g_2270, e_2269, h_2271⟩ := hm_2266.obj er_2240
    obtain ⟨z_2272, z_2273, z_2274, z_2275, z_2276, z_2277, rfl⟩ := smX4 h_2271
    obtain ⟨g_2279, e_2278, h_2280⟩ := hm_2266.obj et_2241
    obtain ⟨z_2281, z_2282, z_2283, z_2284, rfl⟩ := smX6 h_2280
    obtain ⟨f_2286, e_2285⟩ := hm_2266.arrI e_2248
    have u_2287 := ht_2268 _ _ u_2249
    obtain ⟨f_2289, e_2288⟩ := hm_2266.arrI e_2255
    have u_2290 := ht_2268 _ _ u_2256
    have hsm := hsm.tr (hm_2266.mono (by decide))
    have htx := htx.tr ht_2268
    obtain ⟨ts_2291, te_2292, cc_2293, ra_2294, rb_2295, rc_2296, rv_2297, re_2298, ya_2299, h1_2300, h2_2301, h3_2302, h4_2303, er_2304, et_2305, wr_2306, wt_2307, ⟨k_2308, c9_2309, t_2310, f_2311, e_2312, u_2313, w_2314⟩, ⟨k_2315, c9_2316, t_2317, f_2318, e_2319, u_2320, w_2321⟩⟩ := id hx_2267
    refine lv_iconst (v := 1) hx hb dX4_readTest_124 (by decide) ?_
    exact W.zret (v := 1) hx hb hr rfl (fun t ht hW => ⟨⟨1, (), rfl, Or.inr rfl, ws_2264, ty_2265, hsm, htx, by rw [ht]; exact hP, va_K.moved hW.alike hK, hD, (⟨ts_2291, te_2292, cc_2293, ra_2294, rb_2295, rc_2296, rv_2297, re_2298, ya_2299, by omega, by omega, by omega, by omega, er_2304, et_2305, wr_2306, wt_2307, ⟨k_2308, c9_2309, t_2310, f_2311, e_2312, u_2313, w_2314⟩, ⟨k_2315, c9_2316, t_2317, f_2318, e_2319, u_2320, w_2321⟩⟩ : RS ρ ws_2264 ty_2265 rd krd tp ktp cd bb tl)⟩, hS.F ht⟩) hS.2.2 dX4_readTest_125
  refine lv_aload_n hx hb dX4_readTest_10 rfl (lv_at hl 1 rfl) ?_
  have hFc := free_all hD hS hA
  refine va_calli (va_runV (As := []) (rest := []) ⟨hx, hb, hml, hown, hts⟩ (r_failHere l D ρ ws_34 ty_35 adK adV fo rd krd tp ktp cd bb tl  H.size (⟨ts_1, te_2, cc_3, ra_4, rb_5, rc_6, rv_7, re_8, ya_9, by omega, by omega, by omega, by omega, e_39, e_40, wr_16, wt_17, ⟨k_18, c9_19, t_20, f_42, e_41, u_43, w_24⟩, ⟨k_25, c9_26, t_27, f_45, e_44, u_46, w_31⟩⟩ : RS ρ ws_34 ty_35 rd krd tp ktp cd bb tl)) (cwV 0 hts gX4_readTest_X4_failHere rfl rfl rfl (by decide +kernel) ⟨Nat.le_of_ble_eq_true rfl, Nat.le_of_ble_eq_true rfl⟩) ⟨fun a U g mk q => by obtain ⟨q0, q1, qP, qK, qD, qS⟩ := q; exact ⟨q0, q1, qP, va_K.moved (u := U) (U := U.calling g mk a) (Vm.Alike.refl U.vm) qK, qD, SZ.same rfl rfl qS⟩, va_recv hK hP (ci := 4) (q0 := krd) rfl e_39, fun U hU hW => ⟨rfl, by rw [hU], by rw [hU]; exact hP, va_K.moved hW.alike hK, hD.weaken (fun _ _ _ _ => trivial), hsz9.go hS hW hU hFc⟩⟩ rfl rfl hl.1 rfl (lv_room (Nat.le_of_ble_eq_true rfl)) dX4_readTest_11 ⟨Nat.le_of_ble_eq_true rfl, Nat.le_of_ble_eq_true rfl⟩) hS (fun q _ h => hFc q h) hFc (fun r_2322 u t H1 locs ht hvm w_2323 hB hz1 hk1 hS => ?_)
  obtain ⟨ws_2324, ty_2325, hm_2326, ht_2328, hP1, hK1, hD1, hx_2327⟩ := hB
  rw [ht] at hP1
  have hK := va_K.moved hvm.symm hK1
  have hD := hD1.weaken (fun _ _ _ h => hFc _ h)
  generalize H1 = H at hP1 hS ⊢
  have hP := hP1
  obtain ⟨g_2330, e_2329, h_2331⟩ := hm_2326.obj e_39
  obtain ⟨z_2332, z_2333, z_2334, z_2335, z_2336, z_2337, rfl⟩ := smX4 h_2331
  obtain ⟨g_2339, e_2338, h_2340⟩ := hm_2326.obj e_40
  obtain ⟨z_2341, z_2342, z_2343, z_2344, rfl⟩ := smX6 h_2340
  obtain ⟨f_2346, e_2345⟩ := hm_2326.arrI e_41
  have u_2347 := ht_2328 _ _ u_43
  obtain ⟨f_2349, e_2348⟩ := hm_2326.arrI e_44
  have u_2350 := ht_2328 _ _ u_46
  have hsm := hsm.tr (hm_2326.mono (by decide))
  have htx := htx.tr ht_2328
  obtain ⟨ts_2351, te_2352, cc_2353, ra_2354, rb_2355, rc_2356, rv_2357, re_2358, ya_2359, h1_2360, h2_2361, h3_2362, h4_2363, er_2364, et_2365, wr_2366, wt_2367, ⟨k_2368, c9_2369, t_2370, f_2371, e_2372, u_2373, w_2374⟩, ⟨k_2375, c9_2376, t_2377, f_2378, e_2379, u_2380, w_2381⟩⟩ := id hx_2327
  subst w_2323
  exact W.zret (v := 0) hx hb hr rfl (fun t ht hW => ⟨⟨0, (), rfl, Or.inl rfl, ws_2324, ty_2325, hsm, htx, by rw [ht]; exact hP, va_K.moved hW.alike hK, hD, (⟨ts_2351, te_2352, cc_2353, ra_2354, rb_2355, rc_2356, rv_2357, re_2358, ya_2359, by omega, by omega, by omega, by omega, er_2364, et_2365, wr_2366, wt_2367, ⟨k_2368, c9_2369, t_2370, f_2371, e_2372, u_2373, w_2374⟩, ⟨k_2375, c9_2376, t_2377, f_2378, e_2379, u_2380, w_2381⟩⟩ : RS ρ ws_2324 ty_2325 rd krd tp ktp cd bb tl)⟩, hS.F ht⟩) hS.2.2 dX4_readTest_14
