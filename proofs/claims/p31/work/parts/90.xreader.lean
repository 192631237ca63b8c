theorem dX4_failAt_0 : decode cX4_failAt 0 = .ok (.aload_n 0, 1) := by decide +kernel
theorem dX4_failAt_1 : decode cX4_failAt 1 = .ok (.iload_n 1, 1) := by decide +kernel
theorem dX4_failAt_2 : decode cX4_failAt 2 = .ok (.putfield 26, 3) := by decide +kernel
theorem dX4_failAt_5 : decode cX4_failAt 5 = .ok (.aload_n 0, 1) := by decide +kernel
theorem dX4_failAt_6 : decode cX4_failAt 6 = .ok (.iload_n 2, 1) := by decide +kernel
theorem dX4_failAt_7 : decode cX4_failAt 7 = .ok (.putfield 18, 3) := by decide +kernel
theorem dX4_failAt_10 : decode cX4_failAt 10 = .ok (.iconst 0, 1) := by decide +kernel
theorem dX4_failAt_11 : decode cX4_failAt 11 = .ok (.ireturn, 1) := by decide +kernel
theorem dX4_failHere_0 : decode cX4_failHere 0 = .ok (.aload_n 0, 1) := by decide +kernel
theorem dX4_failHere_1 : decode cX4_failHere 1 = .ok (.iconst 1, 1) := by decide +kernel
theorem dX4_failHere_2 : decode cX4_failHere 2 = .ok (.aload_n 0, 1) := by decide +kernel
theorem dX4_failHere_3 : decode cX4_failHere 3 = .ok (.getfield 12, 3) := by decide +kernel
theorem dX4_failHere_6 : decode cX4_failHere 6 = .ok (.getfield 73, 3) := by decide +kernel
theorem dX4_failHere_9 : decode cX4_failHere 9 = .ok (.invokevirtual 76, 3) := by decide +kernel
theorem dX4_failHere_12 : decode cX4_failHere 12 = .ok (.ireturn, 1) := by decide +kernel
theorem dX4_measureNamed_0 : decode cX4_measureNamed 0 = .ok (.aload_n 0, 1) := by decide +kernel
theorem dX4_measureNamed_1 : decode cX4_measureNamed 1 = .ok (.getfield 12, 3) := by decide +kernel
theorem dX4_measureNamed_4 : decode cX4_measureNamed 4 = .ok (.ldc 137, 2) := by decide +kernel
theorem dX4_measureNamed_6 : decode cX4_measureNamed 6 = .ok (.invokevirtual 99, 3) := by decide +kernel
theorem dX4_measureNamed_9 : decode cX4_measureNamed 9 = .ok (.ifCond .eq 5, 3) := by decide +kernel
theorem dX4_measureNamed_12 : decode cX4_measureNamed 12 = .ok (.iconst 0, 1) := by decide +kernel
theorem dX4_measureNamed_13 : decode cX4_measureNamed 13 = .ok (.ireturn, 1) := by decide +kernel
theorem dX4_measureNamed_14 : decode cX4_measureNamed 14 = .ok (.aload_n 0, 1) := by decide +kernel
theorem dX4_measureNamed_15 : decode cX4_measureNamed 15 = .ok (.getfield 12, 3) := by decide +kernel
theorem dX4_measureNamed_18 : decode cX4_measureNamed 18 = .ok (.ldc 139, 2) := by decide +kernel
theorem dX4_measureNamed_20 : decode cX4_measureNamed 20 = .ok (.invokevirtual 99, 3) := by decide +kernel
theorem dX4_measureNamed_23 : decode cX4_measureNamed 23 = .ok (.ifCond .eq 5, 3) := by decide +kernel
theorem dX4_measureNamed_26 : decode cX4_measureNamed 26 = .ok (.iconst 1, 1) := by decide +kernel
theorem dX4_measureNamed_27 : decode cX4_measureNamed 27 = .ok (.ireturn, 1) := by decide +kernel
theorem dX4_measureNamed_28 : decode cX4_measureNamed 28 = .ok (.aload_n 0, 1) := by decide +kernel
theorem dX4_measureNamed_29 : decode cX4_measureNamed 29 = .ok (.getfield 12, 3) := by decide +kernel
theorem dX4_measureNamed_32 : decode cX4_measureNamed 32 = .ok (.ldc 141, 2) := by decide +kernel
theorem dX4_measureNamed_34 : decode cX4_measureNamed 34 = .ok (.invokevirtual 99, 3) := by decide +kernel
theorem dX4_measureNamed_37 : decode cX4_measureNamed 37 = .ok (.ifCond .eq 5, 3) := by decide +kernel
theorem dX4_measureNamed_40 : decode cX4_measureNamed 40 = .ok (.iconst 2, 1) := by decide +kernel
theorem dX4_measureNamed_41 : decode cX4_measureNamed 41 = .ok (.ireturn, 1) := by decide +kernel
theorem dX4_measureNamed_42 : decode cX4_measureNamed 42 = .ok (.aload_n 0, 1) := by decide +kernel
theorem dX4_measureNamed_43 : decode cX4_measureNamed 43 = .ok (.getfield 12, 3) := by decide +kernel
theorem dX4_measureNamed_46 : decode cX4_measureNamed 46 = .ok (.ldc 143, 2) := by decide +kernel
theorem dX4_measureNamed_48 : decode cX4_measureNamed 48 = .ok (.invokevirtual 99, 3) := by decide +kernel
theorem dX4_measureNamed_51 : decode cX4_measureNamed 51 = .ok (.ifCond .eq 6, 3) := by decide +kernel
theorem dX4_measureNamed_54 : decode cX4_measureNamed 54 = .ok (.bipush 10, 2) := by decide +kernel
theorem dX4_measureNamed_56 : decode cX4_measureNamed 56 = .ok (.ireturn, 1) := by decide +kernel
theorem dX4_measureNamed_57 : decode cX4_measureNamed 57 = .ok (.aload_n 0, 1) := by decide +kernel
theorem dX4_measureNamed_58 : decode cX4_measureNamed 58 = .ok (.getfield 12, 3) := by decide +kernel
theorem dX4_measureNamed_61 : decode cX4_measureNamed 61 = .ok (.ldc 145, 2) := by decide +kernel
theorem dX4_measureNamed_63 : decode cX4_measureNamed 63 = .ok (.invokevirtual 99, 3) := by decide +kernel
theorem dX4_measureNamed_66 : decode cX4_measureNamed 66 = .ok (.ifCond .eq 8, 3) := by decide +kernel
theorem dX4_measureNamed_69 : decode cX4_measureNamed 69 = .ok (.bipush 30, 2) := by decide +kernel
theorem dX4_measureNamed_71 : decode cX4_measureNamed 71 = .ok (.goto 4, 3) := by decide +kernel
theorem dX4_measureNamed_74 : decode cX4_measureNamed 74 = .ok (.iconst (-1), 1) := by decide +kernel
theorem dX4_measureNamed_75 : decode cX4_measureNamed 75 = .ok (.ireturn, 1) := by decide +kernel
theorem dX4_isAndOr_0 : decode cX4_isAndOr 0 = .ok (.aload_n 0, 1) := by decide +kernel
theorem dX4_isAndOr_1 : decode cX4_isAndOr 1 = .ok (.getfield 12, 3) := by decide +kernel
theorem dX4_isAndOr_4 : decode cX4_isAndOr 4 = .ok (.ldc 102, 2) := by decide +kernel
theorem dX4_isAndOr_6 : decode cX4_isAndOr 6 = .ok (.invokevirtual 99, 3) := by decide +kernel
theorem dX4_isAndOr_9 : decode cX4_isAndOr 9 = .ok (.ifCond .ne 15, 3) := by decide +kernel
theorem dX4_isAndOr_12 : decode cX4_isAndOr 12 = .ok (.aload_n 0, 1) := by decide +kernel
theorem dX4_isAndOr_13 : decode cX4_isAndOr 13 = .ok (.getfield 12, 3) := by decide +kernel
theorem dX4_isAndOr_16 : decode cX4_isAndOr 16 = .ok (.ldc 97, 2) := by decide +kernel
theorem dX4_isAndOr_18 : decode cX4_isAndOr 18 = .ok (.invokevirtual 99, 3) := by decide +kernel
theorem dX4_isAndOr_21 : decode cX4_isAndOr 21 = .ok (.ifCond .eq 7, 3) := by decide +kernel
theorem dX4_isAndOr_24 : decode cX4_isAndOr 24 = .ok (.iconst 1, 1) := by decide +kernel
theorem dX4_isAndOr_25 : decode cX4_isAndOr 25 = .ok (.goto 4, 3) := by decide +kernel
theorem dX4_isAndOr_28 : decode cX4_isAndOr 28 = .ok (.iconst 0, 1) := by decide +kernel
theorem dX4_isAndOr_29 : decode cX4_isAndOr 29 = .ok (.ireturn, 1) := by decide +kernel
theorem dX4_isKeptWord_0 : decode cX4_isKeptWord 0 = .ok (.aload_n 0, 1) := by decide +kernel
theorem dX4_isKeptWord_1 : decode cX4_isKeptWord 1 = .ok (.getfield 12, 3) := by decide +kernel
theorem dX4_isKeptWord_4 : decode cX4_isKeptWord 4 = .ok (.ldc 97, 2) := by decide +kernel
theorem dX4_isKeptWord_6 : decode cX4_isKeptWord 6 = .ok (.invokevirtual 99, 3) := by decide +kernel
theorem dX4_isKeptWord_9 : decode cX4_isKeptWord 9 = .ok (.ifCond .ne 71, 3) := by decide +kernel
theorem dX4_isKeptWord_12 : decode cX4_isKeptWord 12 = .ok (.aload_n 0, 1) := by decide +kernel
theorem dX4_isKeptWord_13 : decode cX4_isKeptWord 13 = .ok (.getfield 12, 3) := by decide +kernel
theorem dX4_isKeptWord_16 : decode cX4_isKeptWord 16 = .ok (.ldc 102, 2) := by decide +kernel
theorem dX4_isKeptWord_18 : decode cX4_isKeptWord 18 = .ok (.invokevirtual 99, 3) := by decide +kernel
theorem dX4_isKeptWord_21 : decode cX4_isKeptWord 21 = .ok (.ifCond .ne 59, 3) := by decide +kernel
theorem dX4_isKeptWord_24 : decode cX4_isKeptWord 24 = .ok (.aload_n 0, 1) := by decide +kernel
theorem dX4_isKeptWord_25 : decode cX4_isKeptWord 25 = .ok (.getfield 12, 3) := by decide +kernel
theorem dX4_isKeptWord_28 : decode cX4_isKeptWord 28 = .ok (.ldc 104, 2) := by decide +kernel
theorem dX4_isKeptWord_30 : decode cX4_isKeptWord 30 = .ok (.invokevirtual 99, 3) := by decide +kernel
theorem dX4_isKeptWord_33 : decode cX4_isKeptWord 33 = .ok (.ifCond .ne 47, 3) := by decide +kernel
theorem dX4_isKeptWord_36 : decode cX4_isKeptWord 36 = .ok (.aload_n 0, 1) := by decide +kernel
theorem dX4_isKeptWord_37 : decode cX4_isKeptWord 37 = .ok (.getfield 12, 3) := by decide +kernel
theorem dX4_isKeptWord_40 : decode cX4_isKeptWord 40 = .ok (.ldc 106, 2) := by decide +kernel
theorem dX4_isKeptWord_42 : decode cX4_isKeptWord 42 = .ok (.invokevirtual 99, 3) := by decide +kernel
theorem dX4_isKeptWord_45 : decode cX4_isKeptWord 45 = .ok (.ifCond .ne 35, 3) := by decide +kernel
theorem dX4_isKeptWord_48 : decode cX4_isKeptWord 48 = .ok (.aload_n 0, 1) := by decide +kernel
theorem dX4_isKeptWord_49 : decode cX4_isKeptWord 49 = .ok (.getfield 12, 3) := by decide +kernel
theorem dX4_isKeptWord_52 : decode cX4_isKeptWord 52 = .ok (.ldc 108, 2) := by decide +kernel
theorem dX4_isKeptWord_54 : decode cX4_isKeptWord 54 = .ok (.invokevirtual 99, 3) := by decide +kernel
theorem dX4_isKeptWord_57 : decode cX4_isKeptWord 57 = .ok (.ifCond .ne 23, 3) := by decide +kernel
theorem dX4_isKeptWord_60 : decode cX4_isKeptWord 60 = .ok (.aload_n 0, 1) := by decide +kernel
theorem dX4_isKeptWord_61 : decode cX4_isKeptWord 61 = .ok (.getfield 12, 3) := by decide +kernel
theorem dX4_isKeptWord_64 : decode cX4_isKeptWord 64 = .ok (.ldc 47, 2) := by decide +kernel
theorem dX4_isKeptWord_66 : decode cX4_isKeptWord 66 = .ok (.invokevirtual 99, 3) := by decide +kernel
theorem dX4_isKeptWord_69 : decode cX4_isKeptWord 69 = .ok (.ifCond .ne 11, 3) := by decide +kernel
theorem dX4_isKeptWord_72 : decode cX4_isKeptWord 72 = .ok (.aload_n 0, 1) := by decide +kernel
theorem dX4_isKeptWord_73 : decode cX4_isKeptWord 73 = .ok (.invokevirtual 110, 3) := by decide +kernel
theorem dX4_isKeptWord_76 : decode cX4_isKeptWord 76 = .ok (.iconst (-1), 1) := by decide +kernel
theorem dX4_isKeptWord_77 : decode cX4_isKeptWord 77 = .ok (.if_icmp .eq 7, 3) := by decide +kernel
theorem dX4_isKeptWord_80 : decode cX4_isKeptWord 80 = .ok (.iconst 1, 1) := by decide +kernel
theorem dX4_isKeptWord_81 : decode cX4_isKeptWord 81 = .ok (.goto 4, 3) := by decide +kernel
theorem dX4_isKeptWord_84 : decode cX4_isKeptWord 84 = .ok (.iconst 0, 1) := by decide +kernel
theorem dX4_isKeptWord_85 : decode cX4_isKeptWord 85 = .ok (.ireturn, 1) := by decide +kernel
theorem dX4_readByte_0 : decode cX4_readByte 0 = .ok (.aload_n 0, 1) := by decide +kernel
theorem dX4_readByte_1 : decode cX4_readByte 1 = .ok (.getfield 12, 3) := by decide +kernel
theorem dX4_readByte_4 : decode cX4_readByte 4 = .ok (.iload_n 1, 1) := by decide +kernel
theorem dX4_readByte_5 : decode cX4_readByte 5 = .ok (.invokevirtual 114, 3) := by decide +kernel
theorem dX4_readByte_8 : decode cX4_readByte 8 = .ok (.ifCond .ne 8, 3) := by decide +kernel
theorem dX4_readByte_11 : decode cX4_readByte 11 = .ok (.aload_n 0, 1) := by decide +kernel
theorem dX4_readByte_12 : decode cX4_readByte 12 = .ok (.invokevirtual 64, 3) := by decide +kernel
theorem dX4_readByte_15 : decode cX4_readByte 15 = .ok (.ireturn, 1) := by decide +kernel
theorem dX4_readByte_16 : decode cX4_readByte 16 = .ok (.aload_n 0, 1) := by decide +kernel
theorem dX4_readByte_17 : decode cX4_readByte 17 = .ok (.getfield 12, 3) := by decide +kernel
theorem dX4_readByte_20 : decode cX4_readByte 20 = .ok (.invokevirtual 94, 3) := by decide +kernel
theorem dX4_readByte_23 : decode cX4_readByte 23 = .ok (.iconst 1, 1) := by decide +kernel
theorem dX4_readByte_24 : decode cX4_readByte 24 = .ok (.ireturn, 1) := by decide +kernel
theorem dX4_readWord_0 : decode cX4_readWord 0 = .ok (.aload_n 0, 1) := by decide +kernel
theorem dX4_readWord_1 : decode cX4_readWord 1 = .ok (.getfield 12, 3) := by decide +kernel
theorem dX4_readWord_4 : decode cX4_readWord 4 = .ok (.aload_n 1, 1) := by decide +kernel
theorem dX4_readWord_5 : decode cX4_readWord 5 = .ok (.invokevirtual 99, 3) := by decide +kernel
theorem dX4_readWord_8 : decode cX4_readWord 8 = .ok (.ifCond .ne 8, 3) := by decide +kernel
theorem dX4_readWord_11 : decode cX4_readWord 11 = .ok (.aload_n 0, 1) := by decide +kernel
theorem dX4_readWord_12 : decode cX4_readWord 12 = .ok (.invokevirtual 64, 3) := by decide +kernel
theorem dX4_readWord_15 : decode cX4_readWord 15 = .ok (.ireturn, 1) := by decide +kernel
theorem dX4_readWord_16 : decode cX4_readWord 16 = .ok (.aload_n 0, 1) := by decide +kernel
theorem dX4_readWord_17 : decode cX4_readWord 17 = .ok (.getfield 12, 3) := by decide +kernel
theorem dX4_readWord_20 : decode cX4_readWord 20 = .ok (.invokevirtual 94, 3) := by decide +kernel
theorem dX4_readWord_23 : decode cX4_readWord 23 = .ok (.iconst 1, 1) := by decide +kernel
theorem dX4_readWord_24 : decode cX4_readWord 24 = .ok (.ireturn, 1) := by decide +kernel
theorem dX4_readNumber_0 : decode cX4_readNumber 0 = .ok (.aload_n 0, 1) := by decide +kernel
theorem dX4_readNumber_1 : decode cX4_readNumber 1 = .ok (.getfield 12, 3) := by decide +kernel
theorem dX4_readNumber_4 : decode cX4_readNumber 4 = .ok (.getfield 61, 3) := by decide +kernel
theorem dX4_readNumber_7 : decode cX4_readNumber 7 = .ok (.iconst 2, 1) := by decide +kernel
theorem dX4_readNumber_8 : decode cX4_readNumber 8 = .ok (.if_icmp .eq 8, 3) := by decide +kernel
theorem dX4_readNumber_11 : decode cX4_readNumber 11 = .ok (.aload_n 0, 1) := by decide +kernel
theorem dX4_readNumber_12 : decode cX4_readNumber 12 = .ok (.invokevirtual 64, 3) := by decide +kernel
theorem dX4_readNumber_15 : decode cX4_readNumber 15 = .ok (.ireturn, 1) := by decide +kernel
theorem dX4_readNumber_16 : decode cX4_readNumber 16 = .ok (.aload_n 0, 1) := by decide +kernel
theorem dX4_readNumber_17 : decode cX4_readNumber 17 = .ok (.getfield 12, 3) := by decide +kernel
theorem dX4_readNumber_20 : decode cX4_readNumber 20 = .ok (.getfield 83, 3) := by decide +kernel
theorem dX4_readNumber_23 : decode cX4_readNumber 23 = .ok (.aload_n 0, 1) := by decide +kernel
theorem dX4_readNumber_24 : decode cX4_readNumber 24 = .ok (.getfield 12, 3) := by decide +kernel
theorem dX4_readNumber_27 : decode cX4_readNumber 27 = .ok (.getfield 73, 3) := by decide +kernel
theorem dX4_readNumber_30 : decode cX4_readNumber 30 = .ok (.isub, 1) := by decide +kernel
theorem dX4_readNumber_31 : decode cX4_readNumber 31 = .ok (.iconst 5, 1) := by decide +kernel
theorem dX4_readNumber_32 : decode cX4_readNumber 32 = .ok (.if_icmp .le 18, 3) := by decide +kernel
theorem dX4_readNumber_35 : decode cX4_readNumber 35 = .ok (.aload_n 0, 1) := by decide +kernel
theorem dX4_readNumber_36 : decode cX4_readNumber 36 = .ok (.iconst 1, 1) := by decide +kernel
theorem dX4_readNumber_37 : decode cX4_readNumber 37 = .ok (.aload_n 0, 1) := by decide +kernel
theorem dX4_readNumber_38 : decode cX4_readNumber 38 = .ok (.getfield 12, 3) := by decide +kernel
theorem dX4_readNumber_41 : decode cX4_readNumber 41 = .ok (.getfield 73, 3) := by decide +kernel
theorem dX4_readNumber_44 : decode cX4_readNumber 44 = .ok (.iconst 5, 1) := by decide +kernel
theorem dX4_readNumber_45 : decode cX4_readNumber 45 = .ok (.iadd, 1) := by decide +kernel
theorem dX4_readNumber_46 : decode cX4_readNumber 46 = .ok (.invokevirtual 76, 3) := by decide +kernel
theorem dX4_readNumber_49 : decode cX4_readNumber 49 = .ok (.ireturn, 1) := by decide +kernel
theorem dX4_readNumber_50 : decode cX4_readNumber 50 = .ok (.aload_n 0, 1) := by decide +kernel
theorem dX4_readNumber_51 : decode cX4_readNumber 51 = .ok (.aload_n 0, 1) := by decide +kernel
theorem dX4_readNumber_52 : decode cX4_readNumber 52 = .ok (.getfield 12, 3) := by decide +kernel
theorem dX4_readNumber_55 : decode cX4_readNumber 55 = .ok (.invokevirtual 117, 3) := by decide +kernel
theorem dX4_readNumber_58 : decode cX4_readNumber 58 = .ok (.putfield 56, 3) := by decide +kernel
theorem dX4_readNumber_61 : decode cX4_readNumber 61 = .ok (.aload_n 0, 1) := by decide +kernel
theorem dX4_readNumber_62 : decode cX4_readNumber 62 = .ok (.getfield 56, 3) := by decide +kernel
theorem dX4_readNumber_65 : decode cX4_readNumber 65 = .ok (.iload_n 1, 1) := by decide +kernel
theorem dX4_readNumber_66 : decode cX4_readNumber 66 = .ok (.if_icmp .le 16, 3) := by decide +kernel
theorem dX4_readNumber_69 : decode cX4_readNumber 69 = .ok (.aload_n 0, 1) := by decide +kernel
theorem dX4_readNumber_70 : decode cX4_readNumber 70 = .ok (.iconst 2, 1) := by decide +kernel
theorem dX4_readNumber_71 : decode cX4_readNumber 71 = .ok (.aload_n 0, 1) := by decide +kernel
theorem dX4_readNumber_72 : decode cX4_readNumber 72 = .ok (.getfield 12, 3) := by decide +kernel
theorem dX4_readNumber_75 : decode cX4_readNumber 75 = .ok (.getfield 73, 3) := by decide +kernel
theorem dX4_readNumber_78 : decode cX4_readNumber 78 = .ok (.invokevirtual 76, 3) := by decide +kernel
theorem dX4_readNumber_81 : decode cX4_readNumber 81 = .ok (.ireturn, 1) := by decide +kernel
theorem dX4_readNumber_82 : decode cX4_readNumber 82 = .ok (.aload_n 0, 1) := by decide +kernel
theorem dX4_readNumber_83 : decode cX4_readNumber 83 = .ok (.getfield 12, 3) := by decide +kernel
theorem dX4_readNumber_86 : decode cX4_readNumber 86 = .ok (.invokevirtual 94, 3) := by decide +kernel
theorem dX4_readNumber_89 : decode cX4_readNumber 89 = .ok (.iconst 1, 1) := by decide +kernel
theorem dX4_readNumber_90 : decode cX4_readNumber 90 = .ok (.ireturn, 1) := by decide +kernel
theorem dX4_readName_0 : decode cX4_readName 0 = .ok (.aload_n 0, 1) := by decide +kernel
theorem dX4_readName_1 : decode cX4_readName 1 = .ok (.getfield 12, 3) := by decide +kernel
theorem dX4_readName_4 : decode cX4_readName 4 = .ok (.getfield 61, 3) := by decide +kernel
theorem dX4_readName_7 : decode cX4_readName 7 = .ok (.iconst 1, 1) := by decide +kernel
theorem dX4_readName_8 : decode cX4_readName 8 = .ok (.if_icmp .ne 10, 3) := by decide +kernel
theorem dX4_readName_11 : decode cX4_readName 11 = .ok (.aload_n 0, 1) := by decide +kernel
theorem dX4_readName_12 : decode cX4_readName 12 = .ok (.invokevirtual 80, 3) := by decide +kernel
theorem dX4_readName_15 : decode cX4_readName 15 = .ok (.ifCond .eq 8, 3) := by decide +kernel
theorem dX4_readName_18 : decode cX4_readName 18 = .ok (.aload_n 0, 1) := by decide +kernel
theorem dX4_readName_19 : decode cX4_readName 19 = .ok (.invokevirtual 64, 3) := by decide +kernel
theorem dX4_readName_22 : decode cX4_readName 22 = .ok (.ireturn, 1) := by decide +kernel
theorem dX4_readName_23 : decode cX4_readName 23 = .ok (.aload_n 0, 1) := by decide +kernel
theorem dX4_readName_24 : decode cX4_readName 24 = .ok (.getfield 12, 3) := by decide +kernel
theorem dX4_readName_27 : decode cX4_readName 27 = .ok (.getfield 83, 3) := by decide +kernel
theorem dX4_readName_30 : decode cX4_readName 30 = .ok (.aload_n 0, 1) := by decide +kernel
theorem dX4_readName_31 : decode cX4_readName 31 = .ok (.getfield 12, 3) := by decide +kernel
theorem dX4_readName_34 : decode cX4_readName 34 = .ok (.getfield 73, 3) := by decide +kernel
theorem dX4_readName_37 : decode cX4_readName 37 = .ok (.isub, 1) := by decide +kernel
theorem dX4_readName_38 : decode cX4_readName 38 = .ok (.bipush 12, 2) := by decide +kernel
theorem dX4_readName_40 : decode cX4_readName 40 = .ok (.if_icmp .le 19, 3) := by decide +kernel
theorem dX4_readName_43 : decode cX4_readName 43 = .ok (.aload_n 0, 1) := by decide +kernel
theorem dX4_readName_44 : decode cX4_readName 44 = .ok (.iconst 1, 1) := by decide +kernel
theorem dX4_readName_45 : decode cX4_readName 45 = .ok (.aload_n 0, 1) := by decide +kernel
theorem dX4_readName_46 : decode cX4_readName 46 = .ok (.getfield 12, 3) := by decide +kernel
theorem dX4_readName_49 : decode cX4_readName 49 = .ok (.getfield 73, 3) := by decide +kernel
theorem dX4_readName_52 : decode cX4_readName 52 = .ok (.bipush 12, 2) := by decide +kernel
theorem dX4_readName_54 : decode cX4_readName 54 = .ok (.iadd, 1) := by decide +kernel
theorem dX4_readName_55 : decode cX4_readName 55 = .ok (.invokevirtual 76, 3) := by decide +kernel
theorem dX4_readName_58 : decode cX4_readName 58 = .ok (.ireturn, 1) := by decide +kernel
theorem dX4_readName_59 : decode cX4_readName 59 = .ok (.aload_n 0, 1) := by decide +kernel
theorem dX4_readName_60 : decode cX4_readName 60 = .ok (.aload_n 0, 1) := by decide +kernel
theorem dX4_readName_61 : decode cX4_readName 61 = .ok (.getfield 12, 3) := by decide +kernel
theorem dX4_readName_64 : decode cX4_readName 64 = .ok (.invokevirtual 86, 3) := by decide +kernel
theorem dX4_readName_67 : decode cX4_readName 67 = .ok (.putfield 90, 3) := by decide +kernel
theorem dX4_readName_70 : decode cX4_readName 70 = .ok (.aload_n 0, 1) := by decide +kernel
theorem dX4_readName_71 : decode cX4_readName 71 = .ok (.getfield 12, 3) := by decide +kernel
theorem dX4_readName_74 : decode cX4_readName 74 = .ok (.invokevirtual 94, 3) := by decide +kernel
theorem dX4_readName_77 : decode cX4_readName 77 = .ok (.iconst 1, 1) := by decide +kernel
theorem dX4_readName_78 : decode cX4_readName 78 = .ok (.ireturn, 1) := by decide +kernel
theorem dX4_addCode_0 : decode cX4_addCode 0 = .ok (.aload_n 0, 1) := by decide +kernel
theorem dX4_addCode_1 : decode cX4_addCode 1 = .ok (.getfield 29, 3) := by decide +kernel
theorem dX4_addCode_4 : decode cX4_addCode 4 = .ok (.ifCond .lt 35, 3) := by decide +kernel
theorem dX4_addCode_7 : decode cX4_addCode 7 = .ok (.aload_n 0, 1) := by decide +kernel
theorem dX4_addCode_8 : decode cX4_addCode 8 = .ok (.getfield 29, 3) := by decide +kernel
theorem dX4_addCode_11 : decode cX4_addCode 11 = .ok (.aload_n 0, 1) := by decide +kernel
theorem dX4_addCode_12 : decode cX4_addCode 12 = .ok (.getfield 22, 3) := by decide +kernel
theorem dX4_addCode_15 : decode cX4_addCode 15 = .ok (.arraylength, 1) := by decide +kernel
theorem dX4_addCode_16 : decode cX4_addCode 16 = .ok (.if_icmp .ge 23, 3) := by decide +kernel
theorem dX4_addCode_19 : decode cX4_addCode 19 = .ok (.aload_n 0, 1) := by decide +kernel
theorem dX4_addCode_20 : decode cX4_addCode 20 = .ok (.getfield 22, 3) := by decide +kernel
theorem dX4_addCode_23 : decode cX4_addCode 23 = .ok (.aload_n 0, 1) := by decide +kernel
theorem dX4_addCode_24 : decode cX4_addCode 24 = .ok (.getfield 29, 3) := by decide +kernel
theorem dX4_addCode_27 : decode cX4_addCode 27 = .ok (.iload_n 1, 1) := by decide +kernel
theorem dX4_addCode_28 : decode cX4_addCode 28 = .ok (.iastore, 1) := by decide +kernel
theorem dX4_addCode_29 : decode cX4_addCode 29 = .ok (.aload_n 0, 1) := by decide +kernel
theorem dX4_addCode_30 : decode cX4_addCode 30 = .ok (.dup, 1) := by decide +kernel
theorem dX4_addCode_31 : decode cX4_addCode 31 = .ok (.getfield 29, 3) := by decide +kernel
theorem dX4_addCode_34 : decode cX4_addCode 34 = .ok (.iconst 1, 1) := by decide +kernel
theorem dX4_addCode_35 : decode cX4_addCode 35 = .ok (.iadd, 1) := by decide +kernel
theorem dX4_addCode_36 : decode cX4_addCode 36 = .ok (.putfield 29, 3) := by decide +kernel
theorem dX4_addCode_39 : decode cX4_addCode 39 = .ok (.return_, 1) := by decide +kernel
theorem dX4_testCode_0 : decode cX4_testCode 0 = .ok (.iload_n 0, 1) := by decide +kernel
theorem dX4_testCode_1 : decode cX4_testCode 1 = .ok (.iconst 2, 1) := by decide +kernel
theorem dX4_testCode_2 : decode cX4_testCode 2 = .ok (.imul, 1) := by decide +kernel
theorem dX4_testCode_3 : decode cX4_testCode 3 = .ok (.iload_n 1, 1) := by decide +kernel
theorem dX4_testCode_4 : decode cX4_testCode 4 = .ok (.ifCond .eq 7, 3) := by decide +kernel
theorem dX4_testCode_7 : decode cX4_testCode 7 = .ok (.iconst 1, 1) := by decide +kernel
theorem dX4_testCode_8 : decode cX4_testCode 8 = .ok (.goto 4, 3) := by decide +kernel
theorem dX4_testCode_11 : decode cX4_testCode 11 = .ok (.iconst 0, 1) := by decide +kernel
theorem dX4_testCode_12 : decode cX4_testCode 12 = .ok (.iadd, 1) := by decide +kernel
theorem dX4_testCode_13 : decode cX4_testCode 13 = .ok (.bipush 10, 2) := by decide +kernel
theorem dX4_testCode_15 : decode cX4_testCode 15 = .ok (.ishl, 1) := by decide +kernel
theorem dX4_testCode_16 : decode cX4_testCode 16 = .ok (.iload_n 2, 1) := by decide +kernel
theorem dX4_testCode_17 : decode cX4_testCode 17 = .ok (.iadd, 1) := by decide +kernel
theorem dX4_testCode_18 : decode cX4_testCode 18 = .ok (.ireturn, 1) := by decide +kernel
theorem dX4_readTest_0 : decode cX4_readTest 0 = .ok (.aload_n 0, 1) := by decide +kernel
theorem dX4_readTest_1 : decode cX4_readTest 1 = .ok (.invokevirtual 110, 3) := by decide +kernel
theorem dX4_readTest_4 : decode cX4_readTest 4 = .ok (.istore_n 1, 1) := by decide +kernel
theorem dX4_readTest_5 : decode cX4_readTest 5 = .ok (.iload_n 1, 1) := by decide +kernel
theorem dX4_readTest_6 : decode cX4_readTest 6 = .ok (.iconst (-1), 1) := by decide +kernel
theorem dX4_readTest_7 : decode cX4_readTest 7 = .ok (.if_icmp .ne 8, 3) := by decide +kernel
theorem dX4_readTest_10 : decode cX4_readTest 10 = .ok (.aload_n 0, 1) := by decide +kernel
theorem dX4_readTest_11 : decode cX4_readTest 11 = .ok (.invokevirtual 64, 3) := by decide +kernel
theorem dX4_readTest_14 : decode cX4_readTest 14 = .ok (.ireturn, 1) := by decide +kernel
theorem dX4_readTest_15 : decode cX4_readTest 15 = .ok (.aload_n 0, 1) := by decide +kernel
theorem dX4_readTest_16 : decode cX4_readTest 16 = .ok (.getfield 12, 3) := by decide +kernel
theorem dX4_readTest_19 : decode cX4_readTest 19 = .ok (.invokevirtual 94, 3) := by decide +kernel
theorem dX4_readTest_22 : decode cX4_readTest 22 = .ok (.iload_n 1, 1) := by decide +kernel
theorem dX4_readTest_23 : decode cX4_readTest 23 = .ok (.bipush 10, 2) := by decide +kernel
theorem dX4_readTest_25 : decode cX4_readTest 25 = .ok (.if_icmp .eq 9, 3) := by decide +kernel
theorem dX4_readTest_28 : decode cX4_readTest 28 = .ok (.iload_n 1, 1) := by decide +kernel
theorem dX4_readTest_29 : decode cX4_readTest 29 = .ok (.bipush 30, 2) := by decide +kernel
theorem dX4_readTest_31 : decode cX4_readTest 31 = .ok (.if_icmp .ne 30, 3) := by decide +kernel
theorem dX4_readTest_34 : decode cX4_readTest 34 = .ok (.aload_n 0, 1) := by decide +kernel
theorem dX4_readTest_35 : decode cX4_readTest 35 = .ok (.iload_n 1, 1) := by decide +kernel
theorem dX4_readTest_36 : decode cX4_readTest 36 = .ok (.bipush 30, 2) := by decide +kernel
theorem dX4_readTest_38 : decode cX4_readTest 38 = .ok (.if_icmp .ne 7, 3) := by decide +kernel
theorem dX4_readTest_41 : decode cX4_readTest 41 = .ok (.iconst 3, 1) := by decide +kernel
theorem dX4_readTest_42 : decode cX4_readTest 42 = .ok (.goto 4, 3) := by decide +kernel
theorem dX4_readTest_45 : decode cX4_readTest 45 = .ok (.iconst 4, 1) := by decide +kernel
theorem dX4_readTest_46 : decode cX4_readTest 46 = .ok (.invokevirtual 53, 3) := by decide +kernel
theorem dX4_readTest_49 : decode cX4_readTest 49 = .ok (.ifCond .ne 5, 3) := by decide +kernel
theorem dX4_readTest_52 : decode cX4_readTest 52 = .ok (.iconst 0, 1) := by decide +kernel
theorem dX4_readTest_53 : decode cX4_readTest 53 = .ok (.ireturn, 1) := by decide +kernel
theorem dX4_readTest_54 : decode cX4_readTest 54 = .ok (.iload_n 1, 1) := by decide +kernel
theorem dX4_readTest_55 : decode cX4_readTest 55 = .ok (.aload_n 0, 1) := by decide +kernel
theorem dX4_readTest_56 : decode cX4_readTest 56 = .ok (.getfield 56, 3) := by decide +kernel
theorem dX4_readTest_59 : decode cX4_readTest 59 = .ok (.iadd, 1) := by decide +kernel
theorem dX4_readTest_60 : decode cX4_readTest 60 = .ok (.istore_n 1, 1) := by decide +kernel
theorem dX4_readTest_61 : decode cX4_readTest 61 = .ok (.aload_n 0, 1) := by decide +kernel
theorem dX4_readTest_62 : decode cX4_readTest 62 = .ok (.getfield 12, 3) := by decide +kernel
theorem dX4_readTest_65 : decode cX4_readTest 65 = .ok (.ldc 108, 2) := by decide +kernel
theorem dX4_readTest_67 : decode cX4_readTest 67 = .ok (.invokevirtual 99, 3) := by decide +kernel
theorem dX4_readTest_70 : decode cX4_readTest 70 = .ok (.istore_n 2, 1) := by decide +kernel
theorem dX4_readTest_71 : decode cX4_readTest 71 = .ok (.iload_n 2, 1) := by decide +kernel
theorem dX4_readTest_72 : decode cX4_readTest 72 = .ok (.ifCond .ne 20, 3) := by decide +kernel
theorem dX4_readTest_75 : decode cX4_readTest 75 = .ok (.aload_n 0, 1) := by decide +kernel
theorem dX4_readTest_76 : decode cX4_readTest 76 = .ok (.getfield 12, 3) := by decide +kernel
theorem dX4_readTest_79 : decode cX4_readTest 79 = .ok (.ldc 106, 2) := by decide +kernel
theorem dX4_readTest_81 : decode cX4_readTest 81 = .ok (.invokevirtual 99, 3) := by decide +kernel
theorem dX4_readTest_84 : decode cX4_readTest 84 = .ok (.ifCond .ne 8, 3) := by decide +kernel
theorem dX4_readTest_87 : decode cX4_readTest 87 = .ok (.aload_n 0, 1) := by decide +kernel
theorem dX4_readTest_88 : decode cX4_readTest 88 = .ok (.invokevirtual 64, 3) := by decide +kernel
theorem dX4_readTest_91 : decode cX4_readTest 91 = .ok (.ireturn, 1) := by decide +kernel
theorem dX4_readTest_92 : decode cX4_readTest 92 = .ok (.aload_n 0, 1) := by decide +kernel
theorem dX4_readTest_93 : decode cX4_readTest 93 = .ok (.getfield 12, 3) := by decide +kernel
theorem dX4_readTest_96 : decode cX4_readTest 96 = .ok (.invokevirtual 94, 3) := by decide +kernel
theorem dX4_readTest_99 : decode cX4_readTest 99 = .ok (.aload_n 0, 1) := by decide +kernel
theorem dX4_readTest_100 : decode cX4_readTest 100 = .ok (.sipush 1000, 3) := by decide +kernel
theorem dX4_readTest_103 : decode cX4_readTest 103 = .ok (.invokevirtual 53, 3) := by decide +kernel
theorem dX4_readTest_106 : decode cX4_readTest 106 = .ok (.ifCond .ne 5, 3) := by decide +kernel
theorem dX4_readTest_109 : decode cX4_readTest 109 = .ok (.iconst 0, 1) := by decide +kernel
theorem dX4_readTest_110 : decode cX4_readTest 110 = .ok (.ireturn, 1) := by decide +kernel
theorem dX4_readTest_111 : decode cX4_readTest 111 = .ok (.aload_n 0, 1) := by decide +kernel
theorem dX4_readTest_112 : decode cX4_readTest 112 = .ok (.iload_n 1, 1) := by decide +kernel
theorem dX4_readTest_113 : decode cX4_readTest 113 = .ok (.iload_n 2, 1) := by decide +kernel
theorem dX4_readTest_114 : decode cX4_readTest 114 = .ok (.aload_n 0, 1) := by decide +kernel
theorem dX4_readTest_115 : decode cX4_readTest 115 = .ok (.getfield 56, 3) := by decide +kernel
theorem dX4_readTest_118 : decode cX4_readTest 118 = .ok (.invokestatic 133, 3) := by decide +kernel
theorem dX4_readTest_121 : decode cX4_readTest 121 = .ok (.invokevirtual 126, 3) := by decide +kernel
theorem dX4_readTest_124 : decode cX4_readTest 124 = .ok (.iconst 1, 1) := by decide +kernel
theorem dX4_readTest_125 : decode cX4_readTest 125 = .ok (.ireturn, 1) := by decide +kernel
set_option maxRecDepth 20000 in
theorem ggX4_failHere_X4_failAt : GoodIn wsX4_failHere wsX4_failAt := goodIn_r _ [7, 8, 9, 10, 11, 12, 13, 14, 15, 16, 17] rfl (by decide +kernel)
set_option maxRecDepth 20000 in
theorem gX4_failHere_X4_failAt : GoodIn wsX4_failHere (wsV RX4 76 RX4 yX4_failAt wsX4_failAt) := goodIn_app (goodIn_of _ (by decide +kernel)) ggX4_failHere_X4_failAt
set_option maxRecDepth 20000 in
theorem ggX4_measureNamed_X6_isWord : GoodIn wsX4_measureNamed wsX6_isWord := goodIn_r _ [6, 7, 8, 9, 10, 11, 12, 13, 14, 15, 16, 17, 18, 19, 20, 21, 22, 23, 24, 5, 25, 26, 27, 28, 29, 30, 31, 32, 33, 34, 35, 36, 37, 38, 39, 40, 41, 42, 43, 44, 45, 46, 47, 48, 49, 50, 51, 52, 53, 54, 55, 56, 57, 58, 59, 60, 61, 62, 63, 64, 73, 74, 75, 76, 77] rfl (by decide +kernel)
set_option maxRecDepth 20000 in
theorem gX4_measureNamed_X6_isWord : GoodIn wsX4_measureNamed (wsV RX4 99 RX6 yX6_isWord wsX6_isWord) := goodIn_app (goodIn_of _ (by decide +kernel)) ggX4_measureNamed_X6_isWord
set_option maxRecDepth 20000 in
theorem ggX4_isAndOr_X6_isWord : GoodIn wsX4_isAndOr wsX6_isWord := goodIn_r _ [6, 7, 8, 9, 10, 11, 12, 13, 14, 15, 16, 17, 18, 19, 20, 21, 22, 23, 24, 5, 25, 26, 27, 28, 29, 30, 31, 32, 33, 34, 35, 36, 37, 38, 39, 40, 41, 42, 43, 44, 45, 46, 47, 48, 49, 50, 51, 52, 53, 54, 55, 56, 57, 58, 59, 60, 61, 62, 63, 64, 73, 74, 75, 76, 77] rfl (by decide +kernel)
set_option maxRecDepth 20000 in
theorem gX4_isAndOr_X6_isWord : GoodIn wsX4_isAndOr (wsV RX4 99 RX6 yX6_isWord wsX6_isWord) := goodIn_app (goodIn_of _ (by decide +kernel)) ggX4_isAndOr_X6_isWord
set_option maxRecDepth 20000 in
theorem ggX4_isKeptWord_X6_isWord : GoodIn wsX4_isKeptWord wsX6_isWord := goodIn_r _ [6, 7, 8, 9, 10, 11, 12, 13, 14, 15, 16, 17, 18, 19, 20, 21, 22, 23, 24, 5, 25, 26, 27, 28, 29, 30, 31, 32, 33, 34, 35, 36, 37, 38, 39, 40, 41, 42, 43, 44, 45, 46, 47, 48, 49, 50, 51, 52, 53, 54, 55, 56, 57, 58, 59, 60, 61, 62, 63, 64, 78, 79, 80, 81, 82] rfl (by decide +kernel)
set_option maxRecDepth 20000 in
theorem gX4_isKeptWord_X6_isWord : GoodIn wsX4_isKeptWord (wsV RX4 99 RX6 yX6_isWord wsX6_isWord) := goodIn_app (goodIn_of _ (by decide +kernel)) ggX4_isKeptWord_X6_isWord
set_option maxRecDepth 20000 in
theorem ggX4_isKeptWord_X4_measureNamed : GoodIn wsX4_isKeptWord wsX4_measureNamed := goodIn_r _ [69, 1, 2, 3, 4, 5, 6, 7, 8, 9, 10, 11, 12, 13, 14, 15, 16, 17, 18, 19, 20, 21, 22, 23, 24, 25, 26, 27, 28, 29, 30, 31, 32, 33, 34, 35, 36, 37, 38, 39, 40, 41, 42, 43, 44, 45, 46, 47, 48, 49, 50, 51, 52, 53, 54, 55, 56, 57, 58, 59, 60, 61, 62, 63, 64, 70, 71, 72, 73, 74, 75, 76, 77, 78, 79, 80, 81, 82] rfl (by decide +kernel)
set_option maxRecDepth 20000 in
theorem gX4_isKeptWord_X4_measureNamed : GoodIn wsX4_isKeptWord (wsV RX4 110 RX4 yX4_measureNamed wsX4_measureNamed) := goodIn_app (goodIn_of _ (by decide +kernel)) ggX4_isKeptWord_X4_measureNamed
set_option maxRecDepth 20000 in
theorem ggX4_readByte_X6_isByte : GoodIn wsX4_readByte wsX6_isByte := goodIn_r _ [6, 7, 8, 9, 10, 11, 5, 12, 13, 14, 43, 44, 45, 46, 47] rfl (by decide +kernel)
set_option maxRecDepth 20000 in
theorem gX4_readByte_X6_isByte : GoodIn wsX4_readByte (wsV RX4 114 RX6 yX6_isByte wsX6_isByte) := goodIn_app (goodIn_of _ (by decide +kernel)) ggX4_readByte_X6_isByte
set_option maxRecDepth 20000 in
theorem ggX4_readByte_X4_failHere : GoodIn wsX4_readByte wsX4_failHere := goodIn_r _ [19, 1, 20, 21, 22, 23, 18, 24, 25, 26, 35, 36, 37, 38, 39, 40, 41, 42, 43, 44, 45, 46, 47] rfl (by decide +kernel)
set_option maxRecDepth 20000 in
theorem gX4_readByte_X4_failHere : GoodIn wsX4_readByte (wsV RX4 64 RX4 yX4_failHere wsX4_failHere) := goodIn_app (goodIn_of _ (by decide +kernel)) ggX4_readByte_X4_failHere
set_option maxRecDepth 20000 in
theorem ggX4_readByte_X6_advance : GoodIn wsX4_readByte wsX6_advance := goodIn_r _ [30, 31, 13, 8, 7, 9, 10, 11, 5, 12, 14, 32, 33, 34, 43, 44, 45, 46, 47] rfl (by decide +kernel)
set_option maxRecDepth 20000 in
theorem gX4_readByte_X6_advance : GoodIn wsX4_readByte (wsV RX4 94 RX6 yX6_advance wsX6_advance) := goodIn_app (goodIn_of _ (by decide +kernel)) ggX4_readByte_X6_advance
set_option maxRecDepth 20000 in
theorem ggX4_readWord_X6_isWord : GoodIn wsX4_readWord wsX6_isWord := goodIn_r _ [6, 7, 8, 9, 10, 11, 12, 13, 14, 15, 16, 17, 18, 19, 20, 21, 22, 23, 24, 5, 25, 26, 27, 28, 29, 30, 31, 32, 33, 34, 35, 36, 37, 38, 39, 40, 41, 42, 43, 44, 45, 46, 47, 48, 49, 50, 51, 52, 53, 54, 55, 56, 57, 58, 59, 60, 61, 62, 63, 64, 92, 93, 94, 95, 96] rfl (by decide +kernel)
set_option maxRecDepth 20000 in
theorem gX4_readWord_X6_isWord : GoodIn wsX4_readWord (wsV RX4 99 RX6 yX6_isWord wsX6_isWord) := goodIn_app (goodIn_of _ (by decide +kernel)) ggX4_readWord_X6_isWord
set_option maxRecDepth 20000 in
theorem ggX4_readWord_X4_failHere : GoodIn wsX4_readWord wsX4_failHere := goodIn_r _ [69, 1, 70, 71, 72, 73, 68, 74, 75, 76, 84, 85, 86, 87, 88, 89, 90, 91, 92, 93, 94, 95, 96] rfl (by decide +kernel)
set_option maxRecDepth 20000 in
theorem gX4_readWord_X4_failHere : GoodIn wsX4_readWord (wsV RX4 64 RX4 yX4_failHere wsX4_failHere) := goodIn_app (goodIn_of _ (by decide +kernel)) ggX4_readWord_X4_failHere
set_option maxRecDepth 20000 in
theorem ggX4_readWord_X6_advance : GoodIn wsX4_readWord wsX6_advance := goodIn_r _ [80, 8, 26, 9, 7, 22, 23, 24, 5, 25, 27, 81, 82, 83, 92, 93, 94, 95, 96] rfl (by decide +kernel)
set_option maxRecDepth 20000 in
theorem gX4_readWord_X6_advance : GoodIn wsX4_readWord (wsV RX4 94 RX6 yX6_advance wsX6_advance) := goodIn_app (goodIn_of _ (by decide +kernel)) ggX4_readWord_X6_advance
set_option maxRecDepth 20000 in
theorem ggX4_readNumber_X6_numberValue : GoodIn wsX4_readNumber wsX6_numberValue := goodIn_r _ [21, 22, 23, 24, 25, 26, 20, 27, 28, 29, 46, 47, 48, 49, 50] rfl (by decide +kernel)
set_option maxRecDepth 20000 in
theorem gX4_readNumber_X6_numberValue : GoodIn wsX4_readNumber (wsV RX4 117 RX6 yX6_numberValue wsX6_numberValue) := goodIn_app (goodIn_of _ (by decide +kernel)) ggX4_readNumber_X6_numberValue
set_option maxRecDepth 20000 in
theorem ggX4_readNumber_X6_advance : GoodIn wsX4_readNumber wsX6_advance := goodIn_r _ [33, 23, 28, 22, 34, 24, 25, 26, 20, 27, 29, 35, 36, 37, 46, 47, 48, 49, 50] rfl (by decide +kernel)
set_option maxRecDepth 20000 in
theorem gX4_readNumber_X6_advance : GoodIn wsX4_readNumber (wsV RX4 94 RX6 yX6_advance wsX6_advance) := goodIn_app (goodIn_of _ (by decide +kernel)) ggX4_readNumber_X6_advance
set_option maxRecDepth 20000 in
theorem ggX4_readNumber_X4_failAt : GoodIn wsX4_readNumber wsX4_failAt := goodIn_r _ [14, 15, 16, 38, 39, 40, 41, 42, 43, 44, 45] rfl (by decide +kernel)
set_option maxRecDepth 20000 in
theorem gX4_readNumber_X4_failAt : GoodIn wsX4_readNumber (wsV RX4 76 RX4 yX4_failAt wsX4_failAt) := goodIn_app (goodIn_of _ (by decide +kernel)) ggX4_readNumber_X4_failAt
set_option maxRecDepth 20000 in
theorem ggX4_readNumber_X4_failHere : GoodIn wsX4_readNumber wsX4_failHere := goodIn_r _ [10, 1, 4, 11, 12, 13, 9, 14, 15, 16, 38, 39, 40, 41, 42, 43, 44, 45, 46, 47, 48, 49, 50] rfl (by decide +kernel)
set_option maxRecDepth 20000 in
theorem gX4_readNumber_X4_failHere : GoodIn wsX4_readNumber (wsV RX4 64 RX4 yX4_failHere wsX4_failHere) := goodIn_app (goodIn_of _ (by decide +kernel)) ggX4_readNumber_X4_failHere
set_option maxRecDepth 20000 in
theorem ggX4_readName_X4_failHere : GoodIn wsX4_readName wsX4_failHere := goodIn_r _ [81, 1, 4, 82, 83, 84, 9, 85, 86, 87, 100, 101, 102, 103, 104, 105, 106, 107, 108, 109, 110, 111, 112] rfl (by decide +kernel)
set_option maxRecDepth 20000 in
theorem gX4_readName_X4_failHere : GoodIn wsX4_readName (wsV RX4 64 RX4 yX4_failHere wsX4_failHere) := goodIn_app (goodIn_of _ (by decide +kernel)) ggX4_readName_X4_failHere
set_option maxRecDepth 20000 in
theorem ggX4_readName_X4_isKeptWord : GoodIn wsX4_readName wsX4_isKeptWord := goodIn_r _ [10, 1, 11, 12, 13, 14, 15, 16, 17, 18, 19, 20, 21, 22, 23, 24, 25, 26, 27, 28, 29, 30, 31, 32, 33, 34, 35, 36, 37, 38, 39, 40, 41, 42, 43, 44, 45, 46, 47, 48, 49, 50, 51, 52, 53, 54, 55, 56, 57, 58, 59, 60, 61, 62, 63, 64, 65, 66, 67, 68, 69, 70, 71, 72, 73, 74, 75, 76, 9, 77, 100, 101, 102, 103, 104, 105, 106, 107, 108, 109, 110, 111, 112] rfl (by decide +kernel)
set_option maxRecDepth 20000 in
theorem gX4_readName_X4_isKeptWord : GoodIn wsX4_readName (wsV RX4 80 RX4 yX4_isKeptWord wsX4_isKeptWord) := goodIn_app (goodIn_of _ (by decide +kernel)) ggX4_readName_X4_isKeptWord
set_option maxRecDepth 20000 in
theorem ggX4_readName_X6_wordKey : GoodIn wsX4_readName wsX6_wordKey := goodIn_r _ [91, 18, 17, 92, 31, 32, 33, 14, 34, 35, 36, 108, 109, 110, 111, 112] rfl (by decide +kernel)
set_option maxRecDepth 20000 in
theorem gX4_readName_X6_wordKey : GoodIn wsX4_readName (wsV RX4 86 RX6 yX6_wordKey wsX6_wordKey) := goodIn_app (goodIn_of _ (by decide +kernel)) ggX4_readName_X6_wordKey
set_option maxRecDepth 20000 in
theorem ggX4_readName_X6_advance : GoodIn wsX4_readName wsX6_advance := goodIn_r _ [96, 17, 35, 18, 16, 31, 32, 33, 14, 34, 36, 97, 98, 99, 108, 109, 110, 111, 112] rfl (by decide +kernel)
set_option maxRecDepth 20000 in
theorem gX4_readName_X6_advance : GoodIn wsX4_readName (wsV RX4 94 RX6 yX6_advance wsX6_advance) := goodIn_app (goodIn_of _ (by decide +kernel)) ggX4_readName_X6_advance
set_option maxRecDepth 20000 in
theorem ggX4_readName_X4_failAt : GoodIn wsX4_readName wsX4_failAt := goodIn_r _ [85, 86, 87, 100, 101, 102, 103, 104, 105, 106, 107] rfl (by decide +kernel)
set_option maxRecDepth 20000 in
theorem gX4_readName_X4_failAt : GoodIn wsX4_readName (wsV RX4 76 RX4 yX4_failAt wsX4_failAt) := goodIn_app (goodIn_of _ (by decide +kernel)) ggX4_readName_X4_failAt
set_option maxRecDepth 20000 in
theorem ggX4_readTest_X4_measureNamed : GoodIn wsX4_readTest wsX4_measureNamed := goodIn_r _ [7, 1, 8, 9, 10, 11, 12, 13, 14, 15, 16, 17, 18, 19, 20, 21, 22, 23, 24, 25, 26, 27, 28, 29, 30, 31, 32, 33, 34, 35, 36, 37, 38, 39, 40, 41, 42, 43, 44, 45, 46, 47, 48, 49, 50, 51, 52, 53, 54, 55, 56, 57, 58, 59, 60, 61, 62, 63, 64, 65, 66, 67, 68, 69, 70, 108, 109, 110, 111, 112, 113, 114, 115, 116, 117, 118, 119, 120] rfl (by decide +kernel)
set_option maxRecDepth 20000 in
theorem gX4_readTest_X4_measureNamed : GoodIn wsX4_readTest (wsV RX4 110 RX4 yX4_measureNamed wsX4_measureNamed) := goodIn_app (goodIn_of _ (by decide +kernel)) ggX4_readTest_X4_measureNamed
set_option maxRecDepth 20000 in
theorem ggX4_readTest_X6_advance : GoodIn wsX4_readTest wsX6_advance := goodIn_r _ [85, 14, 32, 15, 13, 28, 29, 30, 11, 31, 33, 86, 87, 88, 116, 117, 118, 119, 120] rfl (by decide +kernel)
set_option maxRecDepth 20000 in
theorem gX4_readTest_X6_advance : GoodIn wsX4_readTest (wsV RX4 94 RX6 yX6_advance wsX6_advance) := goodIn_app (goodIn_of _ (by decide +kernel)) ggX4_readTest_X6_advance
set_option maxRecDepth 20000 in
theorem ggX4_readTest_X6_isWord : GoodIn wsX4_readTest wsX6_isWord := goodIn_r _ [12, 13, 14, 15, 16, 17, 18, 19, 20, 21, 22, 23, 24, 25, 26, 27, 28, 29, 30, 11, 31, 32, 33, 34, 35, 36, 37, 38, 39, 40, 41, 42, 43, 44, 45, 46, 47, 48, 49, 50, 51, 52, 53, 54, 55, 56, 57, 58, 59, 60, 61, 62, 63, 64, 65, 66, 67, 68, 69, 70, 116, 117, 118, 119, 120] rfl (by decide +kernel)
set_option maxRecDepth 20000 in
theorem gX4_readTest_X6_isWord : GoodIn wsX4_readTest (wsV RX4 99 RX6 yX6_isWord wsX6_isWord) := goodIn_app (goodIn_of _ (by decide +kernel)) ggX4_readTest_X6_isWord
set_option maxRecDepth 20000 in
theorem ggX4_readTest_X4_failHere : GoodIn wsX4_readTest wsX4_failHere := goodIn_r _ [74, 1, 75, 76, 77, 78, 6, 79, 80, 81, 108, 109, 110, 111, 112, 113, 114, 115, 116, 117, 118, 119, 120] rfl (by decide +kernel)
set_option maxRecDepth 20000 in
theorem gX4_readTest_X4_failHere : GoodIn wsX4_readTest (wsV RX4 64 RX4 yX4_failHere wsX4_failHere) := goodIn_app (goodIn_of _ (by decide +kernel)) ggX4_readTest_X4_failHere
set_option maxRecDepth 20000 in
theorem ggX4_readTest_X4_readNumber : GoodIn wsX4_readTest wsX4_readNumber := goodIn_r _ [92, 1, 93, 94, 75, 2, 71, 72, 73, 6, 74, 76, 77, 78, 79, 80, 81, 95, 96, 97, 11, 98, 15, 14, 28, 29, 30, 31, 32, 33, 82, 83, 84, 85, 13, 86, 87, 88, 108, 109, 110, 111, 112, 113, 114, 115, 116, 117, 118, 119, 120] rfl (by decide +kernel)
set_option maxRecDepth 20000 in
theorem gX4_readTest_X4_readNumber : GoodIn wsX4_readTest (wsV RX4 53 RX4 yX4_readNumber wsX4_readNumber) := goodIn_app (goodIn_of _ (by decide +kernel)) ggX4_readTest_X4_readNumber
set_option maxRecDepth 20000 in
theorem ggX4_readTest_X4_testCode : GoodIn wsX4_readTest wsX4_testCode := goodIn_r _ [101] rfl (by decide +kernel)
set_option maxRecDepth 20000 in
theorem gX4_readTest_X4_testCode : GoodIn wsX4_readTest (va_wsS RX4 133 yX4_testCode wsX4_testCode) := goodIn_app (goodIn_of _ (by decide +kernel)) ggX4_readTest_X4_testCode
set_option maxRecDepth 20000 in
theorem ggX4_readTest_X4_addCode : GoodIn wsX4_readTest wsX4_addCode := goodIn_r _ [105, 106, 107, 108, 109, 110, 111, 112, 113, 114, 115] rfl (by decide +kernel)
set_option maxRecDepth 20000 in
theorem gX4_readTest_X4_addCode : GoodIn wsX4_readTest (wsV RX4 126 RX4 yX4_addCode wsX4_addCode) := goodIn_app (goodIn_of _ (by decide +kernel)) ggX4_readTest_X4_addCode
theorem rz_o0 {k : Nat} : rz [] k ≠ 0 := by rw [rz, if_neg List.not_mem_nil]; omega
theorem rz_u0 {ρ : Nat → Nat} (k : Nat) (h : ρ k ≠ 0) : rz [] k ≠ 0 := rz_o0
/-- the class' code of a thing -/
def enc (t : Tk) : Int32 := if t.1 = 3 then -1 else if t.1 = 2 then -2 else if t.1 = 1 then -3 else nI ((t.2.1 * 2 + (if t.2.2.1 = 10 then 1 else 0)) * 1024 + t.2.2.2)
/-- the reader and its tape, at their places: the piece at hand begins at ts, the codes are T's -/
def RSX (ρ : Nat → Nat) (ws : va_W) (tys : List (ClassId × FieldType)) (f9 : Nat → Int32) (rd krd tp ktp cd bb tl ts : Nat) (T : List Tk) (nk : Int64) (fr fk fp vl : Int32) : Prop := ∃ (kcd : Nat) (ccd : ClassId) (tcd : Nat) (fcd : Nat → Int32) (kbb : Nat) (cbb : ClassId) (tbb : Nat) (fbb : Nat → Int32), pcB f9 tl ts ∧ T.length ≤ 200 ∧ ws[krd]? = some (rd, .inr (4, [.ref tp, .long nk, .int fr, .int fk, .int fp, .ref cd, .int (nI T.length), .int vl])) ∧ ws[ktp]? = some (tp, .inr (6, [.int (nI tl), .int (nI (kdF f9 tl ts)), .int (nI ts), .int (nI (teF f9 tl ts)), .ref bb])) ∧ ρ krd = 0 ∧ ρ ktp = 0 ∧ ws[kcd]? = some (cd, .inl (ccd, 200, .inl fcd)) ∧ tys[tcd]? = some (ccd, .int) ∧ ρ kcd = 0 ∧ (∀ i : Nat, i < T.length → fcd i = enc (T.getD i (0, 0, 0, 0))) ∧ ws[kbb]? = some (bb, .inl (cbb, 400, .inl fbb)) ∧ tys[tbb]? = some (cbb, .int) ∧ ρ kbb = 8008 ∧ (∀ i : Nat, i < tl → fbb i = f9 i)
theorem cd_add {f g : Nat → Int32} {T : List Tk} {c : Tk} {a : Int32} (hc : a = enc c) (h : ∀ i : Nat, i < T.length → f i = enc (T.getD i (0, 0, 0, 0))) (hg : g = upd f T.length a) : ∀ i : Nat, i < (T ++ [c]).length → g i = enc ((T ++ [c]).getD i (0, 0, 0, 0)) := by
  intro i hi
  rw [len_a1] at hi
  rw [hg]
  rcases Nat.lt_or_ge i T.length with q | q
  · rw [show upd f T.length a i = f i from if_neg (by omega), h i q, List.getD_eq_getElem?_getD, List.getD_eq_getElem?_getD, List.getElem?_append_left q]
  · rw [show i = T.length by omega, show upd f T.length a T.length = a from if_pos rfl, List.getD_eq_getElem?_getD, List.getElem?_append_right (Nat.le_refl _), Nat.sub_self, hc]; rfl
theorem sh10 (a : Nat) : nI a <<< (10 : Int32) = nI (a * 1024) := by
  apply Int32.toBitVec_inj.mp
  apply BitVec.eq_of_toNat_eq
  have e : (nI a <<< (10 : Int32)).toBitVec = (nI a).toBitVec <<< 10 := rfl
  rw [e, BitVec.toNat_shiftLeft, Nat.shiftLeft_eq]
  have t : ∀ k : Nat, (nI k).toBitVec.toNat = k % 4294967296 := fun k => by show (BitVec.ofNat 32 k).toNat = _; exact BitVec.toNat_ofNat k 32
  rw [t, t]
  omega
theorem tcode {w v y : Nat} {x : Int32} (hx : x = nI y) : ((nI w * 2 + x) <<< 10) + nI v = nI ((w * 2 + y) * 1024 + v) := by
  rw [hx, show (2 : Int32) = nI 2 from rfl, pk_mul, nI_add, sh10, nI_add]
theorem enc_t (w v : Nat) : enc (13, w, 9, v) = nI ((w * 2 + 0) * 1024 + v) ∧ enc (13, w, 10, v) = nI ((w * 2 + 1) * 1024 + v) := ⟨rfl, rfl⟩
set_option maxHeartbeats 4000000 in
set_option maxRecDepth 100000 in
theorem r_failAt (l : Launch) (D : va_G) (ρ : Nat → Nat) (ws : va_W) (tys : List (ClassId × FieldType)) (adK adV : Nat → Nat) (fo : Option Nat) (f9 : Nat → Int32) (rd krd tp ktp cd bb tl ts : Nat) (T : List Tk) (nk : Int64) (fr fk fp vl : Int32) (a1 a2 : Int32) (sz : Nat) (htl : tl ≤ 400) (hng : ∀ i : Nat, i < tl → ¬ f9 i = -1) (R0 : RSX ρ ws tys f9 rd krd tp ktp cd bb tl ts T nk fr fk fp vl)  : Met l yX4_failAt wsX4_failAt ({ frames := 0, cells := 0, slots := 0, locals := 0 }) (va_Pc [.ref rd, .int a1, .int a2] (fun U => U.heap.size = sz ∧ va_P D vwCl ws U.heap ∧ va_K D vwCl tys U ∧ va_D (fun _ => True) ws ∧ SZ adK adV fo (va_A ws sz) U U.heap)) (va_Qi (fun (r : Int32) (s9 : Int32) => r = s9) (fun (s9 : Int32) (t : State) => ∃ (ws' : va_W) (tys' : List (ClassId × FieldType)), sm ρ [4, 6] ws ws' ∧ tyx tys tys' ∧ va_P D vwCl ws' t.heap ∧ va_K D vwCl tys' t ∧ va_D (va_A ws sz) ws' ∧ (s9 = 0 ∧ RSX ρ ws' tys' f9 rd krd tp ktp cd bb tl ts T nk fr a1 a2 vl)) (va_A ws sz)) 0 0 (va_A ws sz) := by
  refine Met.ofW (cc := cX4_failAt) (maxL := 3) (ret := (some .boolean)) (by decide) rfl ?_
  intro p e s m args below meth c s₁ B hml hv
  obtain ⟨rfl, hsz, hP, hK, hD0, hsz9⟩ := hv
  have hx := B.exec
  have hb := B.bytes
  have hr := B.returns
  have hts := atoms_spec (ws := wsX4_failAt) B.pre
  have hown : s.vm.findClass RX4 = some m.cls := findClass_of_methodNamed B.named
  have hlocks := B.notSynchronized
  subst hsz
  have hD := hD0.self (sz := s.heap.size)
  generalize hAe : va_A ws s.heap.size = A at hD hsz9 ⊢
  have hA : ∀ q : Nat, s.heap.size ≤ q → A q := fun q h => by rw [← hAe]; exact Or.inr h
  have hS : va_S A s.heap s.heap [] := va_S.rf
  have hsm : sm ρ [4, 6] ws ws := sm.rf ws
  have htx : tyx tys tys := tyx.rf tys
  have hin4 : ∀ w ∈ u_ws RX4 TX4 8, w ∈ wsX4_failAt := (fun _ h9 => List.mem_cons_of_mem _ ((List.mem_append_right _ h9)))
  have hl := lv_entry ([.ref rd, .int a1, .int a2]) (n := 3) (Nat.le_of_ble_eq_true rfl)
  rw [lg_entry_eq]
  generalize (lg_sl ([.ref rd, .int a1, .int a2]) ++ List.replicate (3 - (lg_sl ([.ref rd, .int a1, .int a2])).length) Slot.unset).toArray = ls at hl ⊢
  have hl : lv_has ls 3 [(0, .ref rd), (1, .int a1), (2, .int a2)] := hl
  obtain ⟨kc_1, cc_2, tc_3, fc_4, kb_5, cb_6, tb_7, fb_8, hp_9, hT_10, er_11, et_12, wr_13, wt_14, ec_15, uc_16, wc_17, hc_18, eb_19, ub_20, wb_21, hb_22⟩ := id R0
  have hp_91 := hp_9.1
  have hp_9t := teF_le (f := f9) hp_9.1
  refine lv_aload_n hx hb dX4_failAt_0 rfl (lv_at hl 0 rfl) ?_
  refine lv_iload_n hx hb dX4_failAt_1 rfl (lv_at hl 1 rfl) ?_
  refine va_put (D := D) (ci := 4) (v := .int a1) (ty := .int) (C := RX4) (T := TX4) (N := 8) hx hb hts hin4 tyX4 tyX4_ok nmX4 hown hK hP hD hS krd er_11 rfl 3 (by decide) (hts (.fieldLink RX4 26 "HoneyHouse$RuleReader" "faultKind" "I") (List.mem_of_getElem? (i := 1) rfl)) (fun _ h9 => h9) rfl (tyX4_ok 3 (by decide)) rfl rfl (Nat.le_of_ble_eq_true rfl) dX4_failAt_2 (fun H locs hP hD hS => ?_)
  have hP : va_P D vwCl (ws.set krd (rd, .inr (4, [.ref tp, .long nk, .int fr, .int a1, .int fp, .ref cd, .int (nI T.length), .int vl]))) H := hP
  have hD : va_D A (ws.set krd (rd, .inr (4, [.ref tp, .long nk, .int fr, .int a1, .int fp, .ref cd, .int (nI T.length), .int vl]))) := hD
  have hm_24 : sm ρ [4] ws (ws.set krd (rd, .inr (4, [.ref tp, .long nk, .int fr, .int a1, .int fp, .ref cd, .int (nI T.length), .int vl]))) := sm.flds er_11 (smF.c (smV.rf _) (smF.c (smV.rf _) (smF.c (smV.rf _) (smF.c (smV.i _ _) (smF.c (smV.rf _) (smF.c (smV.rf _) (smF.c (smV.rf _) (smF.c (smV.rf _) (rfl))))))))) (List.mem_singleton.mpr rfl) wr_13
  have e_25 : (ws.set krd (rd, .inr (4, [.ref tp, .long nk, .int fr, .int a1, .int fp, .ref cd, .int (nI T.length), .int vl])))[krd]? = some (rd, .inr (4, [.ref tp, .long nk, .int fr, .int a1, .int fp, .ref cd, .int (nI T.length), .int vl])) := wset_self er_11
  have e_26 := set_n (z := (rd, .inr (4, [.ref tp, .long nk, .int fr, .int a1, .int fp, .ref cd, .int (nI T.length), .int vl]))) et_12 (pl_ne et_12 er_11 (by intro h9; simp at h9))
  have e_27 := set_n (z := (rd, .inr (4, [.ref tp, .long nk, .int fr, .int a1, .int fp, .ref cd, .int (nI T.length), .int vl]))) ec_15 (pl_ne ec_15 er_11 (by intro h9; simp at h9))
  have e_28 := set_n (z := (rd, .inr (4, [.ref tp, .long nk, .int fr, .int a1, .int fp, .ref cd, .int (nI T.length), .int vl]))) eb_19 (pl_ne eb_19 er_11 (by intro h9; simp at h9))
  generalize ws.set krd (rd, .inr (4, [.ref tp, .long nk, .int fr, .int a1, .int fp, .ref cd, .int (nI T.length), .int vl])) = ws_23 at hP hD hm_24 e_25 e_26 e_27 e_28
  have hsm := hsm.tr (hm_24.mono (by decide))
  refine lv_aload_n hx hb dX4_failAt_5 rfl (lv_at hl 0 rfl) ?_
  refine lv_iload_n hx hb dX4_failAt_6 rfl (lv_at hl 2 rfl) ?_
  refine va_put (D := D) (ci := 4) (v := .int a2) (ty := .int) (C := RX4) (T := TX4) (N := 8) hx hb hts hin4 tyX4 tyX4_ok nmX4 hown hK hP hD hS krd e_25 rfl 4 (by decide) (hts (.fieldLink RX4 18 "HoneyHouse$RuleReader" "faultPlace" "I") (List.mem_of_getElem? (i := 2) rfl)) (fun _ h9 => h9) rfl (tyX4_ok 4 (by decide)) rfl rfl (Nat.le_of_ble_eq_true rfl) dX4_failAt_7 (fun H locs hP hD hS => ?_)
  have hP : va_P D vwCl (ws_23.set krd (rd, .inr (4, [.ref tp, .long nk, .int fr, .int a1, .int a2, .ref cd, .int (nI T.length), .int vl]))) H := hP
  have hD : va_D A (ws_23.set krd (rd, .inr (4, [.ref tp, .long nk, .int fr, .int a1, .int a2, .ref cd, .int (nI T.length), .int vl]))) := hD
  have hm_30 : sm ρ [4] ws_23 (ws_23.set krd (rd, .inr (4, [.ref tp, .long nk, .int fr, .int a1, .int a2, .ref cd, .int (nI T.length), .int vl]))) := sm.flds e_25 (smF.c (smV.rf _) (smF.c (smV.rf _) (smF.c (smV.rf _) (smF.c (smV.rf _) (smF.c (smV.i _ _) (smF.c (smV.rf _) (smF.c (smV.rf _) (smF.c (smV.rf _) (rfl))))))))) (List.mem_singleton.mpr rfl) wr_13
  have e_31 : (ws_23.set krd (rd, .inr (4, [.ref tp, .long nk, .int fr, .int a1, .int a2, .ref cd, .int (nI T.length), .int vl])))[krd]? = some (rd, .inr (4, [.ref tp, .long nk, .int fr, .int a1, .int a2, .ref cd, .int (nI T.length), .int vl])) := wset_self e_25
  have e_32 := set_n (z := (rd, .inr (4, [.ref tp, .long nk, .int fr, .int a1, .int a2, .ref cd, .int (nI T.length), .int vl]))) e_26 (pl_ne e_26 e_25 (by intro h9; simp at h9))
  have e_33 := set_n (z := (rd, .inr (4, [.ref tp, .long nk, .int fr, .int a1, .int a2, .ref cd, .int (nI T.length), .int vl]))) e_27 (pl_ne e_27 e_25 (by intro h9; simp at h9))
  have e_34 := set_n (z := (rd, .inr (4, [.ref tp, .long nk, .int fr, .int a1, .int a2, .ref cd, .int (nI T.length), .int vl]))) e_28 (pl_ne e_28 e_25 (by intro h9; simp at h9))
  generalize ws_23.set krd (rd, .inr (4, [.ref tp, .long nk, .int fr, .int a1, .int a2, .ref cd, .int (nI T.length), .int vl])) = ws_29 at hP hD hm_30 e_31 e_32 e_33 e_34
  have hsm := hsm.tr (hm_30.mono (by decide))
  refine lv_iconst (v := 0) hx hb dX4_failAt_10 (by decide) ?_
  exact W.zret (v := 0) hx hb hr rfl (fun t ht hW => ⟨⟨0, 0, rfl, rfl, ws_29, tys, hsm, htx, by rw [ht]; exact hP, va_K.moved hW.alike hK, hD, ⟨rfl, (⟨kc_1, cc_2, tc_3, fc_4, kb_5, cb_6, tb_7, fb_8, hp_9, hT_10, e_31, e_32, wr_13, wt_14, e_33, uc_16, wc_17, hc_18, e_34, ub_20, wb_21, hb_22⟩ : RSX ρ ws_29 tys f9 rd krd tp ktp cd bb tl ts T nk fr a1 a2 vl)⟩⟩, hS.F ht⟩) hS.2.2 dX4_failAt_11
set_option maxHeartbeats 4000000 in
set_option maxRecDepth 100000 in
theorem r_failHere (l : Launch) (D : va_G) (ρ : Nat → Nat) (ws : va_W) (tys : List (ClassId × FieldType)) (adK adV : Nat → Nat) (fo : Option Nat) (f9 : Nat → Int32) (rd krd tp ktp cd bb tl ts : Nat) (T : List Tk) (nk : Int64) (fr fk fp vl : Int32)  (sz : Nat) (htl : tl ≤ 400) (hng : ∀ i : Nat, i < tl → ¬ f9 i = -1) (R0 : RSX ρ ws tys f9 rd krd tp ktp cd bb tl ts T nk fr fk fp vl)  : Met l yX4_failHere wsX4_failHere ({ frames := 1, cells := 0, slots := 0, locals := 22 }) (va_Pc [.ref rd] (fun U => U.heap.size = sz ∧ va_P D vwCl ws U.heap ∧ va_K D vwCl tys U ∧ va_D (fun _ => True) ws ∧ SZ adK adV fo (va_A ws sz) U U.heap)) (va_Qi (fun (r : Int32) (s9 : Int32) => r = s9) (fun (s9 : Int32) (t : State) => ∃ (ws' : va_W) (tys' : List (ClassId × FieldType)), sm ρ [4, 6] ws ws' ∧ tyx tys tys' ∧ va_P D vwCl ws' t.heap ∧ va_K D vwCl tys' t ∧ va_D (va_A ws sz) ws' ∧ (s9 = 0 ∧ RSX ρ ws' tys' f9 rd krd tp ktp cd bb tl ts T nk fr 1 (nI ts) vl)) (va_A ws sz)) 0 0 (va_A ws sz) := by
  refine Met.ofW (cc := cX4_failHere) (maxL := 1) (ret := (some .boolean)) (by decide) rfl ?_
  intro p e s m args below meth c s₁ B hml hv
  obtain ⟨rfl, hsz, hP, hK, hD0, hsz9⟩ := hv
  have hx := B.exec
  have hb := B.bytes
  have hr := B.returns
  have hts := atoms_spec (ws := wsX4_failHere) B.pre
  have hown : s.vm.findClass RX4 = some m.cls := findClass_of_methodNamed B.named
  have hlocks := B.notSynchronized
  subst hsz
  have hD := hD0.self (sz := s.heap.size)
  generalize hAe : va_A ws s.heap.size = A at hD hsz9 ⊢
  have hA : ∀ q : Nat, s.heap.size ≤ q → A q := fun q h => by rw [← hAe]; exact Or.inr h
  have hS : va_S A s.heap s.heap [] := va_S.rf
  have hsm : sm ρ [4, 6] ws ws := sm.rf ws
  have htx : tyx tys tys := tyx.rf tys
  have hin4 : ∀ w ∈ u_ws RX4 TX4 8, w ∈ wsX4_failHere := (fun _ h9 => List.mem_cons_of_mem _ (List.mem_append_left _ ((List.mem_append_right _ h9))))
  have hin6 : ∀ w ∈ u_ws RX6 TX6 5, w ∈ wsX4_failHere := (fun _ h9 => List.mem_cons_of_mem _ ((List.mem_append_right _ h9)))
  have hl := lv_entry ([.ref rd]) (n := 1) (Nat.le_of_ble_eq_true rfl)
  rw [lg_entry_eq]
  generalize (lg_sl ([.ref rd]) ++ List.replicate (1 - (lg_sl ([.ref rd])).length) Slot.unset).toArray = ls at hl ⊢
  have hl : lv_has ls 1 [(0, .ref rd)] := hl
  obtain ⟨kc_1, cc_2, tc_3, fc_4, kb_5, cb_6, tb_7, fb_8, hp_9, hT_10, er_11, et_12, wr_13, wt_14, ec_15, uc_16, wc_17, hc_18, eb_19, ub_20, wb_21, hb_22⟩ := id R0
  have hp_91 := hp_9.1
  have hp_9t := teF_le (f := f9) hp_9.1
  refine lv_aload_n hx hb dX4_failHere_0 rfl (lv_at hl 0 rfl) ?_
  refine lv_iconst (v := 1) hx hb dX4_failHere_1 (by decide) ?_
  refine lv_aload_n hx hb dX4_failHere_2 rfl (lv_at hl 0 rfl) ?_
  refine va_get (D := D) (ci := 4) (v := .ref tp) (C := RX4) (T := TX4) (N := 8) hx hb hts hin4 hown hK hP krd er_11 rfl 0 (by decide) (hts (.fieldLink RX4 12 "HoneyHouse$RuleReader" "tape" "LHoneyHouse$Tape;") (List.mem_of_getElem? (i := 1) rfl)) (fun _ h9 => h9) rfl dX4_failHere_3 ?_
  refine va_get (D := D) (ci := 6) (v := .int (nI ts)) (C := RX6) (T := TX6) (N := 5) hx hb hts hin6 hown hK hP ktp et_12 rfl 2 (by decide) (hts (.fieldLink RX4 73 "HoneyHouse$Tape" "start" "I") (List.mem_of_getElem? (i := 2) rfl)) (fun _ h9 => h9) rfl dX4_failHere_6 ?_
  have hFc := free_all hD hS hA
  refine va_calli (va_runV (As := [.int 1, .int (nI ts)]) (rest := []) ⟨hx, hb, hml, hown, hts⟩ (r_failAt l D ρ ws tys adK adV fo f9 rd krd tp ktp cd bb tl ts T nk fr fk fp vl 1 (nI ts) s.heap.size htl hng (⟨kc_1, cc_2, tc_3, fc_4, kb_5, cb_6, tb_7, fb_8, hp_9, hT_10, er_11, et_12, wr_13, wt_14, ec_15, uc_16, wc_17, hc_18, eb_19, ub_20, wb_21, hb_22⟩ : RSX ρ ws tys f9 rd krd tp ktp cd bb tl ts T nk fr fk fp vl) ) (cwV 2 hts gX4_failHere_X4_failAt rfl rfl rfl (by decide +kernel) ⟨Nat.le_of_ble_eq_true rfl, Nat.le_of_ble_eq_true rfl⟩) ⟨fun a U g mk q => by obtain ⟨q0, q1, qP, qK, qD, qS⟩ := q; exact ⟨q0, q1, qP, va_K.moved (u := U) (U := U.calling g mk a) (Vm.Alike.refl U.vm) qK, qD, SZ.same rfl rfl qS⟩, va_recv hK hP (ci := 4) (q0 := krd) rfl er_11, fun U hU hW => ⟨rfl, by rw [hU], by rw [hU]; exact hP, va_K.moved hW.alike hK, hD.weaken (fun _ _ _ _ => trivial), hsz9.go hS hW hU hFc⟩⟩ rfl rfl hl.1 rfl (lv_room (Nat.le_of_ble_eq_true rfl)) dX4_failHere_9 ⟨Nat.le_of_ble_eq_true rfl, Nat.le_of_ble_eq_true rfl⟩) hS (fun q _ h => hFc q h) hFc (fun r_23 u t H1 locs ht hvm w_24 hB hz1 hk1 hS => ?_)
  subst w_24
  obtain ⟨ws_25, ty_26, hm_27, ht_29, hP1, hK1, hD1, hx_28⟩ := hB
  rw [ht] at hP1
  have hK := va_K.moved hvm.symm hK1
  have hD := hD1.weaken (fun _ _ _ h => hFc _ h)
  generalize H1 = H at hP1 hS ⊢
  have hP := hP1
  obtain ⟨g_31, e_30, h_32⟩ := hm_27.obj er_11
  obtain ⟨z_33, z_34, z_35, z_36, z_37, z_38, rfl⟩ := smX4 h_32
  obtain ⟨g_40, e_39, h_41⟩ := hm_27.obj et_12
  obtain ⟨z_42, z_43, z_44, z_45, rfl⟩ := smX6 h_41
  obtain ⟨f_47, e_46⟩ := hm_27.arrI ec_15
  have u_48 := ht_29 _ _ uc_16
  have e_49 := hm_27.keep (by rw [wb_21]; omega) eb_19
  have u_50 := ht_29 _ _ ub_20
  have hsm := hsm.tr (hm_27.mono (by decide))
  have htx := htx.tr ht_29
  obtain ⟨rfl, hR_51⟩ := hx_28
  obtain ⟨kc_52, cc_53, tc_54, fc_55, kb_56, cb_57, tb_58, fb_59, hp_60, hT_61, er_62, et_63, wr_64, wt_65, ec_66, uc_67, wc_68, hc_69, eb_70, ub_71, wb_72, hb_73⟩ := id hR_51
  have hp_601 := hp_60.1
  have hp_60t := teF_le (f := f9) hp_60.1
  exact W.zret (v := 0) hx hb hr rfl (fun t ht hW => ⟨⟨0, 0, rfl, rfl, ws_25, ty_26, hsm, htx, by rw [ht]; exact hP, va_K.moved hW.alike hK, hD, ⟨rfl, (⟨kc_52, cc_53, tc_54, fc_55, kb_56, cb_57, tb_58, fb_59, hp_60, hT_61, er_62, et_63, wr_64, wt_65, ec_66, uc_67, wc_68, hc_69, eb_70, ub_71, wb_72, hb_73⟩ : RSX ρ ws_25 ty_26 f9 rd krd tp ktp cd bb tl ts T nk fr 1 (nI ts) vl)⟩⟩, hS.F ht⟩) hS.2.2 dX4_failHere_12
set_option maxHeartbeats 4000000 in
set_option maxRecDepth 100000 in
theorem r_measureNamed (l : Launch) (D : va_G) (ρ : Nat → Nat) (ws : va_W) (tys : List (ClassId × FieldType)) (adK adV : Nat → Nat) (fo : Option Nat) (f9 : Nat → Int32) (rd krd tp ktp cd tl ts : Nat) (nk : Int64) (fr fk fp r6 vl : Int32) (bb kbb : Nat) (cbb : ClassId) (tbb : Nat) (fbb : Nat → Int32) (sz : Nat) (erd : ws[krd]? = some (rd, .inr (4, [.ref tp, .long nk, .int fr, .int fk, .int fp, .ref cd, .int r6, .int vl]))) (htl : tl ≤ 400) (hbf : ∀ i : Nat, i < tl → fbb i = f9 i) (hng : ∀ i : Nat, i < tl → ¬ f9 i = -1) (hpc : pcB f9 tl ts) (etp : ws[ktp]? = some (tp, .inr (6, [.int (nI tl), .int (nI (kdF f9 tl ts)), .int (nI ts), .int (nI (teF f9 tl ts)), .ref bb]))) (ebb : ws[kbb]? = some (bb, .inl (cbb, 400, .inl fbb))) (ubb : tys[tbb]? = some (cbb, .int))(hkb : ρ kbb ≠ 0)  : Met l yX4_measureNamed wsX4_measureNamed ({ frames := 5, cells := 0, slots := 0, locals := 107 }) (va_Pc [.ref rd] (fun U => U.heap.size = sz ∧ va_P D vwCl ws U.heap ∧ va_K D vwCl tys U ∧ va_D (fun _ => True) ws ∧ SZ adK adV fo (va_A ws sz) U U.heap)) (va_Qi (fun (r : Int32) (_ : Unit) => (wdE f9 tl ts = 4 ∧ r = 0) ∨ (wdE f9 tl ts = 5 ∧ r = 1) ∨ (wdE f9 tl ts = 6 ∧ r = 2) ∨ (wdE f9 tl ts = 7 ∧ r = 10) ∨ (wdE f9 tl ts = 8 ∧ r = 30) ∨ (¬ (4 ≤ wdE f9 tl ts ∧ wdE f9 tl ts ≤ 8) ∧ r = (-1))) (fun (_ : Unit) (t : State) => ∃ (ws' : va_W) (tys' : List (ClassId × FieldType)), sm ρ [] ws ws' ∧ tyx tys tys' ∧ va_P D vwCl ws' t.heap ∧ va_K D vwCl tys' t ∧ va_D (va_A ws sz) ws' ∧ (True)) (va_A ws sz)) 0 0 (va_A ws sz) := by
  refine Met.ofW (cc := cX4_measureNamed) (maxL := 1) (ret := (some .int)) (by decide) rfl ?_
  intro p e s m args below meth c s₁ B hml hv
  obtain ⟨rfl, hsz, hP, hK, hD0, hsz9⟩ := hv
  have hx := B.exec
  have hb := B.bytes
  have hr := B.returns
  have hts := atoms_spec (ws := wsX4_measureNamed) B.pre
  have hown : s.vm.findClass RX4 = some m.cls := findClass_of_methodNamed B.named
  have hlocks := B.notSynchronized
  subst hsz
  have hD := hD0.self (sz := s.heap.size)
  generalize hAe : va_A ws s.heap.size = A at hD hsz9 ⊢
  have hA : ∀ q : Nat, s.heap.size ≤ q → A q := fun q h => by rw [← hAe]; exact Or.inr h
  have hS : va_S A s.heap s.heap [] := va_S.rf
  have hsm : sm ρ [] ws ws := sm.rf ws
  have htx : tyx tys tys := tyx.rf tys
  have hin4 : ∀ w ∈ u_ws RX4 TX4 8, w ∈ wsX4_measureNamed := (fun _ h9 => List.mem_cons_of_mem _ (List.mem_append_left _ ((List.mem_append_right _ h9))))
  have hl := lv_entry ([.ref rd]) (n := 1) (Nat.le_of_ble_eq_true rfl)
  rw [lg_entry_eq]
  generalize (lg_sl ([.ref rd]) ++ List.replicate (1 - (lg_sl ([.ref rd])).length) Slot.unset).toArray = ls at hl ⊢
  have hl : lv_has ls 1 [(0, .ref rd)] := hl
  refine lv_aload_n hx hb dX4_measureNamed_0 rfl (lv_at hl 0 rfl) ?_
  refine va_get (D := D) (ci := 4) (v := .ref tp) (C := RX4) (T := TX4) (N := 8) hx hb hts hin4 hown hK hP krd erd rfl 0 (by decide) (hts (.fieldLink RX4 12 "HoneyHouse$RuleReader" "tape" "LHoneyHouse$Tape;") (List.mem_of_getElem? (i := 1) rfl)) (fun _ h9 => h9) rfl dX4_measureNamed_1 ?_
  refine va_ldcS hx hb hown hsz9.2.2.2.2.2.2.2.2.2.1 dX4_measureNamed_4 ?_
  have hFc := free_all hD hS hA
  refine va_calli (va_runV (As := [.ref (adK 6)]) (rest := []) ⟨hx, hb, hml, hown, hts⟩ (a_isWord l D ρ ws tys adK adV fo 6 f9 tp ktp tl ts bb kbb cbb tbb fbb s.heap.size (by decide) htl hbf hng hpc etp ebb ubb hkb) (cwV 1 hts gX4_measureNamed_X6_isWord rfl rfl rfl (by decide +kernel) ⟨Nat.le_of_ble_eq_true rfl, Nat.le_of_ble_eq_true rfl⟩) ⟨fun a U g mk q => by obtain ⟨q0, q1, qP, qK, qD, qS⟩ := q; exact ⟨q0, q1, qP, va_K.moved (u := U) (U := U.calling g mk a) (Vm.Alike.refl U.vm) qK, qD, SZ.same rfl rfl qS⟩, va_recv hK hP (ci := 6) (q0 := ktp) rfl etp, fun U hU hW => ⟨rfl, by rw [hU], by rw [hU]; exact hP, va_K.moved hW.alike hK, hD.weaken (fun _ _ _ _ => trivial), hsz9.go hS hW hU hFc⟩⟩ rfl rfl hl.1 rfl (lv_room (Nat.le_of_ble_eq_true rfl)) dX4_measureNamed_6 ⟨Nat.le_of_ble_eq_true rfl, Nat.le_of_ble_eq_true rfl⟩) hS (fun q _ h => hFc q h) hFc (fun r_1 u t H1 locs ht hvm w_2 hB hz1 hk1 hS => ?_)
  obtain ⟨ws_3, ty_4, hm_5, ht_7, hP1, hK1, hD1, hx_6⟩ := hB
  rw [ht] at hP1
  have hK := va_K.moved hvm.symm hK1
  have hD := hD1.weaken (fun _ _ _ h => hFc _ h)
  generalize H1 = H at hP1 hS ⊢
  have hP := hP1
  have e_8 := hm_5.objK erd (by decide)
  have e_9 := hm_5.objK etp (by decide)
  have e_10 := hm_5.keep hkb ebb
  have u_11 := ht_7 _ _ ubb
  have hsm := hsm.tr (hm_5.mono (by decide))
  have htx := htx.tr ht_7
  rcases w_2 with ⟨rfl, iw_12⟩ | ⟨rfl, iw_12⟩
  · have iw_12 : ¬ wdE f9 tl ts = 4 := iw_12
    refine lv_if_eq (tgt := 14) hx hb dX4_measureNamed_9 (by decide) (fun c_13 => ?_) (fun c_13 => absurd (by decide) c_13)
    refine lv_aload_n hx hb dX4_measureNamed_14 rfl (lv_at hl 0 rfl) ?_
    refine va_get (D := D) (ci := 4) (v := .ref tp) (C := RX4) (T := TX4) (N := 8) hx hb hts hin4 hown hK hP krd e_8 rfl 0 (by decide) (hts (.fieldLink RX4 12 "HoneyHouse$RuleReader" "tape" "LHoneyHouse$Tape;") (List.mem_of_getElem? (i := 1) rfl)) (fun _ h9 => h9) rfl dX4_measureNamed_15 ?_
    refine va_ldcS hx hb hown hsz9.2.2.2.2.2.2.2.2.2.2.1 dX4_measureNamed_18 ?_
    have hFc := free_all hD hS hA
    refine va_calli (va_runV (As := [.ref (adK 7)]) (rest := []) ⟨hx, hb, hml, hown, hts⟩ (a_isWord l D ρ ws_3 ty_4 adK adV fo 7 f9 tp ktp tl ts bb kbb cbb tbb fbb H.size (by decide) htl hbf hng hpc e_9 e_10 u_11 hkb) (cwV 1 hts gX4_measureNamed_X6_isWord rfl rfl rfl (by decide +kernel) ⟨Nat.le_of_ble_eq_true rfl, Nat.le_of_ble_eq_true rfl⟩) ⟨fun a U g mk q => by obtain ⟨q0, q1, qP, qK, qD, qS⟩ := q; exact ⟨q0, q1, qP, va_K.moved (u := U) (U := U.calling g mk a) (Vm.Alike.refl U.vm) qK, qD, SZ.same rfl rfl qS⟩, va_recv hK hP (ci := 6) (q0 := ktp) rfl e_9, fun U hU hW => ⟨rfl, by rw [hU], by rw [hU]; exact hP, va_K.moved hW.alike hK, hD.weaken (fun _ _ _ _ => trivial), hsz9.go hS hW hU hFc⟩⟩ rfl rfl hl.1 rfl (lv_room (Nat.le_of_ble_eq_true rfl)) dX4_measureNamed_20 ⟨Nat.le_of_ble_eq_true rfl, Nat.le_of_ble_eq_true rfl⟩) hS (fun q _ h => hFc q h) hFc (fun r_14 u t H1 locs ht hvm w_15 hB hz1 hk1 hS => ?_)
    obtain ⟨ws_16, ty_17, hm_18, ht_20, hP1, hK1, hD1, hx_19⟩ := hB
    rw [ht] at hP1
    have hK := va_K.moved hvm.symm hK1
    have hD := hD1.weaken (fun _ _ _ h => hFc _ h)
    generalize H1 = H at hP1 hS ⊢
    have hP := hP1
    have e_21 := hm_18.objK e_8 (by decide)
    have e_22 := hm_18.objK e_9 (by decide)
    have e_23 := hm_18.keep hkb e_10
    have u_24 := ht_20 _ _ u_11
    have hsm := hsm.tr (hm_18.mono (by decide))
    have htx := htx.tr ht_20
    rcases w_15 with ⟨rfl, iw_25⟩ | ⟨rfl, iw_25⟩
    · have iw_25 : ¬ wdE f9 tl ts = 5 := iw_25
      refine lv_if_eq (tgt := 28) hx hb dX4_measureNamed_23 (by decide) (fun c_26 => ?_) (fun c_26 => absurd (by decide) c_26)
      refine lv_aload_n hx hb dX4_measureNamed_28 rfl (lv_at hl 0 rfl) ?_
      refine va_get (D := D) (ci := 4) (v := .ref tp) (C := RX4) (T := TX4) (N := 8) hx hb hts hin4 hown hK hP krd e_21 rfl 0 (by decide) (hts (.fieldLink RX4 12 "HoneyHouse$RuleReader" "tape" "LHoneyHouse$Tape;") (List.mem_of_getElem? (i := 1) rfl)) (fun _ h9 => h9) rfl dX4_measureNamed_29 ?_
      refine va_ldcS hx hb hown hsz9.2.2.2.2.2.2.2.2.2.2.2.1 dX4_measureNamed_32 ?_
      have hFc := free_all hD hS hA
      refine va_calli (va_runV (As := [.ref (adK 8)]) (rest := []) ⟨hx, hb, hml, hown, hts⟩ (a_isWord l D ρ ws_16 ty_17 adK adV fo 8 f9 tp ktp tl ts bb kbb cbb tbb fbb H.size (by decide) htl hbf hng hpc e_22 e_23 u_24 hkb) (cwV 1 hts gX4_measureNamed_X6_isWord rfl rfl rfl (by decide +kernel) ⟨Nat.le_of_ble_eq_true rfl, Nat.le_of_ble_eq_true rfl⟩) ⟨fun a U g mk q => by obtain ⟨q0, q1, qP, qK, qD, qS⟩ := q; exact ⟨q0, q1, qP, va_K.moved (u := U) (U := U.calling g mk a) (Vm.Alike.refl U.vm) qK, qD, SZ.same rfl rfl qS⟩, va_recv hK hP (ci := 6) (q0 := ktp) rfl e_22, fun U hU hW => ⟨rfl, by rw [hU], by rw [hU]; exact hP, va_K.moved hW.alike hK, hD.weaken (fun _ _ _ _ => trivial), hsz9.go hS hW hU hFc⟩⟩ rfl rfl hl.1 rfl (lv_room (Nat.le_of_ble_eq_true rfl)) dX4_measureNamed_34 ⟨Nat.le_of_ble_eq_true rfl, Nat.le_of_ble_eq_true rfl⟩) hS (fun q _ h => hFc q h) hFc (fun r_27 u t H1 locs ht hvm w_28 hB hz1 hk1 hS => ?_)
      obtain ⟨ws_29, ty_30, hm_31, ht_33, hP1, hK1, hD1, hx_32⟩ := hB
      rw [ht] at hP1
      have hK := va_K.moved hvm.symm hK1
      have hD := hD1.weaken (fun _ _ _ h => hFc _ h)
      generalize H1 = H at hP1 hS ⊢
      have hP := hP1
      have e_34 := hm_31.objK e_21 (by decide)
      have e_35 := hm_31.objK e_22 (by decide)
      have e_36 := hm_31.keep hkb e_23
      have u_37 := ht_33 _ _ u_24
      have hsm := hsm.tr (hm_31.mono (by decide))
      have htx := htx.tr ht_33
      rcases w_28 with ⟨rfl, iw_38⟩ | ⟨rfl, iw_38⟩
      · have iw_38 : ¬ wdE f9 tl ts = 6 := iw_38
        refine lv_if_eq (tgt := 42) hx hb dX4_measureNamed_37 (by decide) (fun c_39 => ?_) (fun c_39 => absurd (by decide) c_39)
        refine lv_aload_n hx hb dX4_measureNamed_42 rfl (lv_at hl 0 rfl) ?_
        refine va_get (D := D) (ci := 4) (v := .ref tp) (C := RX4) (T := TX4) (N := 8) hx hb hts hin4 hown hK hP krd e_34 rfl 0 (by decide) (hts (.fieldLink RX4 12 "HoneyHouse$RuleReader" "tape" "LHoneyHouse$Tape;") (List.mem_of_getElem? (i := 1) rfl)) (fun _ h9 => h9) rfl dX4_measureNamed_43 ?_
        refine va_ldcS hx hb hown hsz9.2.2.2.2.2.2.2.2.2.2.2.2.1 dX4_measureNamed_46 ?_
        have hFc := free_all hD hS hA
        refine va_calli (va_runV (As := [.ref (adK 9)]) (rest := []) ⟨hx, hb, hml, hown, hts⟩ (a_isWord l D ρ ws_29 ty_30 adK adV fo 9 f9 tp ktp tl ts bb kbb cbb tbb fbb H.size (by decide) htl hbf hng hpc e_35 e_36 u_37 hkb) (cwV 1 hts gX4_measureNamed_X6_isWord rfl rfl rfl (by decide +kernel) ⟨Nat.le_of_ble_eq_true rfl, Nat.le_of_ble_eq_true rfl⟩) ⟨fun a U g mk q => by obtain ⟨q0, q1, qP, qK, qD, qS⟩ := q; exact ⟨q0, q1, qP, va_K.moved (u := U) (U := U.calling g mk a) (Vm.Alike.refl U.vm) qK, qD, SZ.same rfl rfl qS⟩, va_recv hK hP (ci := 6) (q0 := ktp) rfl e_35, fun U hU hW => ⟨rfl, by rw [hU], by rw [hU]; exact hP, va_K.moved hW.alike hK, hD.weaken (fun _ _ _ _ => trivial), hsz9.go hS hW hU hFc⟩⟩ rfl rfl hl.1 rfl (lv_room (Nat.le_of_ble_eq_true rfl)) dX4_measureNamed_48 ⟨Nat.le_of_ble_eq_true rfl, Nat.le_of_ble_eq_true rfl⟩) hS (fun q _ h => hFc q h) hFc (fun r_40 u t H1 locs ht hvm w_41 hB hz1 hk1 hS => ?_)
        obtain ⟨ws_42, ty_43, hm_44, ht_46, hP1, hK1, hD1, hx_45⟩ := hB
        rw [ht] at hP1
        have hK := va_K.moved hvm.symm hK1
        have hD := hD1.weaken (fun _ _ _ h => hFc _ h)
        generalize H1 = H at hP1 hS ⊢
        have hP := hP1
        have e_47 := hm_44.objK e_34 (by decide)
        have e_48 := hm_44.objK e_35 (by decide)
        have e_49 := hm_44.keep hkb e_36
        have u_50 := ht_46 _ _ u_37
        have hsm := hsm.tr (hm_44.mono (by decide))
        have htx := htx.tr ht_46
        rcases w_41 with ⟨rfl, iw_51⟩ | ⟨rfl, iw_51⟩
        · have iw_51 : ¬ wdE f9 tl ts = 7 := iw_51
          refine lv_if_eq (tgt := 57) hx hb dX4_measureNamed_51 (by decide) (fun c_52 => ?_) (fun c_52 => absurd (by decide) c_52)
          refine lv_aload_n hx hb dX4_measureNamed_57 rfl (lv_at hl 0 rfl) ?_
          refine va_get (D := D) (ci := 4) (v := .ref tp) (C := RX4) (T := TX4) (N := 8) hx hb hts hin4 hown hK hP krd e_47 rfl 0 (by decide) (hts (.fieldLink RX4 12 "HoneyHouse$RuleReader" "tape" "LHoneyHouse$Tape;") (List.mem_of_getElem? (i := 1) rfl)) (fun _ h9 => h9) rfl dX4_measureNamed_58 ?_
          refine va_ldcS hx hb hown hsz9.2.2.2.2.2.2.2.2.2.2.2.2.2 dX4_measureNamed_61 ?_
          have hFc := free_all hD hS hA
          refine va_calli (va_runV (As := [.ref (adK 10)]) (rest := []) ⟨hx, hb, hml, hown, hts⟩ (a_isWord l D ρ ws_42 ty_43 adK adV fo 10 f9 tp ktp tl ts bb kbb cbb tbb fbb H.size (by decide) htl hbf hng hpc e_48 e_49 u_50 hkb) (cwV 1 hts gX4_measureNamed_X6_isWord rfl rfl rfl (by decide +kernel) ⟨Nat.le_of_ble_eq_true rfl, Nat.le_of_ble_eq_true rfl⟩) ⟨fun a U g mk q => by obtain ⟨q0, q1, qP, qK, qD, qS⟩ := q; exact ⟨q0, q1, qP, va_K.moved (u := U) (U := U.calling g mk a) (Vm.Alike.refl U.vm) qK, qD, SZ.same rfl rfl qS⟩, va_recv hK hP (ci := 6) (q0 := ktp) rfl e_48, fun U hU hW => ⟨rfl, by rw [hU], by rw [hU]; exact hP, va_K.moved hW.alike hK, hD.weaken (fun _ _ _ _ => trivial), hsz9.go hS hW hU hFc⟩⟩ rfl rfl hl.1 rfl (lv_room (Nat.le_of_ble_eq_true rfl)) dX4_measureNamed_63 ⟨Nat.le_of_ble_eq_true rfl, Nat.le_of_ble_eq_true rfl⟩) hS (fun q _ h => hFc q h) hFc (fun r_53 u t H1 locs ht hvm w_54 hB hz1 hk1 hS => ?_)
          obtain ⟨ws_55, ty_56, hm_57, ht_59, hP1, hK1, hD1, hx_58⟩ := hB
          rw [ht] at hP1
          have hK := va_K.moved hvm.symm hK1
          have hD := hD1.weaken (fun _ _ _ h => hFc _ h)
          generalize H1 = H at hP1 hS ⊢
          have hP := hP1
          have e_60 := hm_57.objK e_47 (by decide)
          have e_61 := hm_57.objK e_48 (by decide)
          have e_62 := hm_57.keep hkb e_49
          have u_63 := ht_59 _ _ u_50
          have hsm := hsm.tr (hm_57.mono (by decide))
          have htx := htx.tr ht_59
          rcases w_54 with ⟨rfl, iw_64⟩ | ⟨rfl, iw_64⟩
          · have iw_64 : ¬ wdE f9 tl ts = 8 := iw_64
            refine lv_if_eq (tgt := 74) hx hb dX4_measureNamed_66 (by decide) (fun c_65 => ?_) (fun c_65 => absurd (by decide) c_65)
            refine lv_iconst (v := (-1)) hx hb dX4_measureNamed_74 (by decide) ?_
            exact W.iret (v := (-1)) hx hb hr (fun t ht hW => ⟨⟨(-1), (), rfl, Or.inr (Or.inr (Or.inr (Or.inr (Or.inr (⟨by omega, rfl⟩))))), ws_55, ty_56, hsm, htx, by rw [ht]; exact hP, va_K.moved hW.alike hK, hD, trivial⟩, hS.F ht⟩) hS.2.2 dX4_measureNamed_75
          have iw_64 : wdE f9 tl ts = 8 := iw_64
          refine lv_if_eq (tgt := 74) hx hb dX4_measureNamed_66 (by decide) (fun c_66 => absurd c_66 (by decide)) (fun c_66 => ?_)
          refine lv_bipush (v := 30) hx hb dX4_measureNamed_69 (by decide) ?_
          refine lv_goto (tgt := 75) hx hb dX4_measureNamed_71 (by decide) ?_
          exact W.iret (v := 30) hx hb hr (fun t ht hW => ⟨⟨30, (), rfl, Or.inr (Or.inr (Or.inr (Or.inr (Or.inl (⟨iw_64, rfl⟩))))), ws_55, ty_56, hsm, htx, by rw [ht]; exact hP, va_K.moved hW.alike hK, hD, trivial⟩, hS.F ht⟩) hS.2.2 dX4_measureNamed_75
        have iw_51 : wdE f9 tl ts = 7 := iw_51
        refine lv_if_eq (tgt := 57) hx hb dX4_measureNamed_51 (by decide) (fun c_67 => absurd c_67 (by decide)) (fun c_67 => ?_)
        refine lv_bipush (v := 10) hx hb dX4_measureNamed_54 (by decide) ?_
        exact W.iret (v := 10) hx hb hr (fun t ht hW => ⟨⟨10, (), rfl, Or.inr (Or.inr (Or.inr (Or.inl (⟨iw_51, rfl⟩)))), ws_42, ty_43, hsm, htx, by rw [ht]; exact hP, va_K.moved hW.alike hK, hD, trivial⟩, hS.F ht⟩) hS.2.2 dX4_measureNamed_56
      have iw_38 : wdE f9 tl ts = 6 := iw_38
      refine lv_if_eq (tgt := 42) hx hb dX4_measureNamed_37 (by decide) (fun c_68 => absurd c_68 (by decide)) (fun c_68 => ?_)
      refine lv_iconst (v := 2) hx hb dX4_measureNamed_40 (by decide) ?_
      exact W.iret (v := 2) hx hb hr (fun t ht hW => ⟨⟨2, (), rfl, Or.inr (Or.inr (Or.inl (⟨iw_38, rfl⟩))), ws_29, ty_30, hsm, htx, by rw [ht]; exact hP, va_K.moved hW.alike hK, hD, trivial⟩, hS.F ht⟩) hS.2.2 dX4_measureNamed_41
    have iw_25 : wdE f9 tl ts = 5 := iw_25
    refine lv_if_eq (tgt := 28) hx hb dX4_measureNamed_23 (by decide) (fun c_69 => absurd c_69 (by decide)) (fun c_69 => ?_)
    refine lv_iconst (v := 1) hx hb dX4_measureNamed_26 (by decide) ?_
    exact W.iret (v := 1) hx hb hr (fun t ht hW => ⟨⟨1, (), rfl, Or.inr (Or.inl (⟨iw_25, rfl⟩)), ws_16, ty_17, hsm, htx, by rw [ht]; exact hP, va_K.moved hW.alike hK, hD, trivial⟩, hS.F ht⟩) hS.2.2 dX4_measureNamed_27
  have iw_12 : wdE f9 tl ts = 4 := iw_12
  refine lv_if_eq (tgt := 14) hx hb dX4_measureNamed_9 (by decide) (fun c_70 => absurd c_70 (by decide)) (fun c_70 => ?_)
  refine lv_iconst (v := 0) hx hb dX4_measureNamed_12 (by decide) ?_
  exact W.iret (v := 0) hx hb hr (fun t ht hW => ⟨⟨0, (), rfl, Or.inl (⟨iw_12, rfl⟩), ws_3, ty_4, hsm, htx, by rw [ht]; exact hP, va_K.moved hW.alike hK, hD, trivial⟩, hS.F ht⟩) hS.2.2 dX4_measureNamed_13
set_option maxHeartbeats 4000000 in
set_option maxRecDepth 100000 in
theorem r_isAndOr (l : Launch) (D : va_G) (ρ : Nat → Nat) (ws : va_W) (tys : List (ClassId × FieldType)) (adK adV : Nat → Nat) (fo : Option Nat) (f9 : Nat → Int32) (rd krd tp ktp cd tl ts : Nat) (nk : Int64) (fr fk fp r6 vl : Int32) (bb kbb : Nat) (cbb : ClassId) (tbb : Nat) (fbb : Nat → Int32) (sz : Nat) (erd : ws[krd]? = some (rd, .inr (4, [.ref tp, .long nk, .int fr, .int fk, .int fp, .ref cd, .int r6, .int vl]))) (htl : tl ≤ 400) (hbf : ∀ i : Nat, i < tl → fbb i = f9 i) (hng : ∀ i : Nat, i < tl → ¬ f9 i = -1) (hpc : pcB f9 tl ts) (etp : ws[ktp]? = some (tp, .inr (6, [.int (nI tl), .int (nI (kdF f9 tl ts)), .int (nI ts), .int (nI (teF f9 tl ts)), .ref bb]))) (ebb : ws[kbb]? = some (bb, .inl (cbb, 400, .inl fbb))) (ubb : tys[tbb]? = some (cbb, .int))(hkb : ρ kbb ≠ 0)  : Met l yX4_isAndOr wsX4_isAndOr ({ frames := 5, cells := 0, slots := 0, locals := 107 }) (va_Pc [.ref rd] (fun U => U.heap.size = sz ∧ va_P D vwCl ws U.heap ∧ va_K D vwCl tys U ∧ va_D (fun _ => True) ws ∧ SZ adK adV fo (va_A ws sz) U U.heap)) (va_Qi (fun (r : Int32) (_ : Unit) => (r = 0 ∧ ¬ (wdE f9 tl ts = 1 ∨ wdE f9 tl ts = 2)) ∨ (r = 1 ∧ (wdE f9 tl ts = 1 ∨ wdE f9 tl ts = 2))) (fun (_ : Unit) (t : State) => ∃ (ws' : va_W) (tys' : List (ClassId × FieldType)), sm ρ [] ws ws' ∧ tyx tys tys' ∧ va_P D vwCl ws' t.heap ∧ va_K D vwCl tys' t ∧ va_D (va_A ws sz) ws' ∧ (True)) (va_A ws sz)) 0 0 (va_A ws sz) := by
  refine Met.ofW (cc := cX4_isAndOr) (maxL := 1) (ret := (some .boolean)) (by decide) rfl ?_
  intro p e s m args below meth c s₁ B hml hv
  obtain ⟨rfl, hsz, hP, hK, hD0, hsz9⟩ := hv
  have hx := B.exec
  have hb := B.bytes
  have hr := B.returns
  have hts := atoms_spec (ws := wsX4_isAndOr) B.pre
  have hown : s.vm.findClass RX4 = some m.cls := findClass_of_methodNamed B.named
  have hlocks := B.notSynchronized
  subst hsz
  have hD := hD0.self (sz := s.heap.size)
  generalize hAe : va_A ws s.heap.size = A at hD hsz9 ⊢
  have hA : ∀ q : Nat, s.heap.size ≤ q → A q := fun q h => by rw [← hAe]; exact Or.inr h
  have hS : va_S A s.heap s.heap [] := va_S.rf
  have hsm : sm ρ [] ws ws := sm.rf ws
  have htx : tyx tys tys := tyx.rf tys
  have hin4 : ∀ w ∈ u_ws RX4 TX4 8, w ∈ wsX4_isAndOr := (fun _ h9 => List.mem_cons_of_mem _ (List.mem_append_left _ ((List.mem_append_right _ h9))))
  have hl := lv_entry ([.ref rd]) (n := 1) (Nat.le_of_ble_eq_true rfl)
  rw [lg_entry_eq]
  generalize (lg_sl ([.ref rd]) ++ List.replicate (1 - (lg_sl ([.ref rd])).length) Slot.unset).toArray = ls at hl ⊢
  have hl : lv_has ls 1 [(0, .ref rd)] := hl
  refine lv_aload_n hx hb dX4_isAndOr_0 rfl (lv_at hl 0 rfl) ?_
  refine va_get (D := D) (ci := 4) (v := .ref tp) (C := RX4) (T := TX4) (N := 8) hx hb hts hin4 hown hK hP krd erd rfl 0 (by decide) (hts (.fieldLink RX4 12 "HoneyHouse$RuleReader" "tape" "LHoneyHouse$Tape;") (List.mem_of_getElem? (i := 1) rfl)) (fun _ h9 => h9) rfl dX4_isAndOr_1 ?_
  refine va_ldcS hx hb hown hsz9.2.2.2.2.2.1 dX4_isAndOr_4 ?_
  have hFc := free_all hD hS hA
  refine va_calli (va_runV (As := [.ref (adK 2)]) (rest := []) ⟨hx, hb, hml, hown, hts⟩ (a_isWord l D ρ ws tys adK adV fo 2 f9 tp ktp tl ts bb kbb cbb tbb fbb s.heap.size (by decide) htl hbf hng hpc etp ebb ubb hkb) (cwV 1 hts gX4_isAndOr_X6_isWord rfl rfl rfl (by decide +kernel) ⟨Nat.le_of_ble_eq_true rfl, Nat.le_of_ble_eq_true rfl⟩) ⟨fun a U g mk q => by obtain ⟨q0, q1, qP, qK, qD, qS⟩ := q; exact ⟨q0, q1, qP, va_K.moved (u := U) (U := U.calling g mk a) (Vm.Alike.refl U.vm) qK, qD, SZ.same rfl rfl qS⟩, va_recv hK hP (ci := 6) (q0 := ktp) rfl etp, fun U hU hW => ⟨rfl, by rw [hU], by rw [hU]; exact hP, va_K.moved hW.alike hK, hD.weaken (fun _ _ _ _ => trivial), hsz9.go hS hW hU hFc⟩⟩ rfl rfl hl.1 rfl (lv_room (Nat.le_of_ble_eq_true rfl)) dX4_isAndOr_6 ⟨Nat.le_of_ble_eq_true rfl, Nat.le_of_ble_eq_true rfl⟩) hS (fun q _ h => hFc q h) hFc (fun r_1 u t H1 locs ht hvm w_2 hB hz1 hk1 hS => ?_)
  obtain ⟨ws_3, ty_4, hm_5, ht_7, hP1, hK1, hD1, hx_6⟩ := hB
  rw [ht] at hP1
  have hK := va_K.moved hvm.symm hK1
  have hD := hD1.weaken (fun _ _ _ h => hFc _ h)
  generalize H1 = H at hP1 hS ⊢
  have hP := hP1
  have e_8 := hm_5.objK erd (by decide)
  have e_9 := hm_5.objK etp (by decide)
  have e_10 := hm_5.keep hkb ebb
  have u_11 := ht_7 _ _ ubb
  have hsm := hsm.tr (hm_5.mono (by decide))
  have htx := htx.tr ht_7
  rcases w_2 with ⟨rfl, iw_12⟩ | ⟨rfl, iw_12⟩
  · have iw_12 : ¬ wdE f9 tl ts = 2 := iw_12
    refine lv_if_ne (tgt := 24) hx hb dX4_isAndOr_9 (by decide) (fun c_13 => absurd (by decide) c_13) (fun c_13 => ?_)
    refine lv_aload_n hx hb dX4_isAndOr_12 rfl (lv_at hl 0 rfl) ?_
    refine va_get (D := D) (ci := 4) (v := .ref tp) (C := RX4) (T := TX4) (N := 8) hx hb hts hin4 hown hK hP krd e_8 rfl 0 (by decide) (hts (.fieldLink RX4 12 "HoneyHouse$RuleReader" "tape" "LHoneyHouse$Tape;") (List.mem_of_getElem? (i := 1) rfl)) (fun _ h9 => h9) rfl dX4_isAndOr_13 ?_
    refine va_ldcS hx hb hown hsz9.2.2.2.2.1 dX4_isAndOr_16 ?_
    have hFc := free_all hD hS hA
    refine va_calli (va_runV (As := [.ref (adK 1)]) (rest := []) ⟨hx, hb, hml, hown, hts⟩ (a_isWord l D ρ ws_3 ty_4 adK adV fo 1 f9 tp ktp tl ts bb kbb cbb tbb fbb H.size (by decide) htl hbf hng hpc e_9 e_10 u_11 hkb) (cwV 1 hts gX4_isAndOr_X6_isWord rfl rfl rfl (by decide +kernel) ⟨Nat.le_of_ble_eq_true rfl, Nat.le_of_ble_eq_true rfl⟩) ⟨fun a U g mk q => by obtain ⟨q0, q1, qP, qK, qD, qS⟩ := q; exact ⟨q0, q1, qP, va_K.moved (u := U) (U := U.calling g mk a) (Vm.Alike.refl U.vm) qK, qD, SZ.same rfl rfl qS⟩, va_recv hK hP (ci := 6) (q0 := ktp) rfl e_9, fun U hU hW => ⟨rfl, by rw [hU], by rw [hU]; exact hP, va_K.moved hW.alike hK, hD.weaken (fun _ _ _ _ => trivial), hsz9.go hS hW hU hFc⟩⟩ rfl rfl hl.1 rfl (lv_room (Nat.le_of_ble_eq_true rfl)) dX4_isAndOr_18 ⟨Nat.le_of_ble_eq_true rfl, Nat.le_of_ble_eq_true rfl⟩) hS (fun q _ h => hFc q h) hFc (fun r_14 u t H1 locs ht hvm w_15 hB hz1 hk1 hS => ?_)
    obtain ⟨ws_16, ty_17, hm_18, ht_20, hP1, hK1, hD1, hx_19⟩ := hB
    rw [ht] at hP1
    have hK := va_K.moved hvm.symm hK1
    have hD := hD1.weaken (fun _ _ _ h => hFc _ h)
    generalize H1 = H at hP1 hS ⊢
    have hP := hP1
    have e_21 := hm_18.objK e_8 (by decide)
    have e_22 := hm_18.objK e_9 (by decide)
    have e_23 := hm_18.keep hkb e_10
    have u_24 := ht_20 _ _ u_11
    have hsm := hsm.tr (hm_18.mono (by decide))
    have htx := htx.tr ht_20
    rcases w_15 with ⟨rfl, iw_25⟩ | ⟨rfl, iw_25⟩
    · have iw_25 : ¬ wdE f9 tl ts = 1 := iw_25
      refine lv_if_eq (tgt := 28) hx hb dX4_isAndOr_21 (by decide) (fun c_26 => ?_) (fun c_26 => absurd (by decide) c_26)
      refine lv_iconst (v := 0) hx hb dX4_isAndOr_28 (by decide) ?_
      exact W.zret (v := 0) hx hb hr rfl (fun t ht hW => ⟨⟨0, (), rfl, Or.inl ⟨rfl, by omega⟩, ws_16, ty_17, hsm, htx, by rw [ht]; exact hP, va_K.moved hW.alike hK, hD, trivial⟩, hS.F ht⟩) hS.2.2 dX4_isAndOr_29
    have iw_25 : wdE f9 tl ts = 1 := iw_25
    refine lv_if_eq (tgt := 28) hx hb dX4_isAndOr_21 (by decide) (fun c_27 => absurd c_27 (by decide)) (fun c_27 => ?_)
    refine lv_iconst (v := 1) hx hb dX4_isAndOr_24 (by decide) ?_
    refine lv_goto (tgt := 29) hx hb dX4_isAndOr_25 (by decide) ?_
    exact W.zret (v := 1) hx hb hr rfl (fun t ht hW => ⟨⟨1, (), rfl, Or.inr ⟨rfl, by omega⟩, ws_16, ty_17, hsm, htx, by rw [ht]; exact hP, va_K.moved hW.alike hK, hD, trivial⟩, hS.F ht⟩) hS.2.2 dX4_isAndOr_29
  have iw_12 : wdE f9 tl ts = 2 := iw_12
  refine lv_if_ne (tgt := 24) hx hb dX4_isAndOr_9 (by decide) (fun c_28 => ?_) (fun c_28 => absurd c_28 (by decide))
  refine lv_iconst (v := 1) hx hb dX4_isAndOr_24 (by decide) ?_
  refine lv_goto (tgt := 29) hx hb dX4_isAndOr_25 (by decide) ?_
  exact W.zret (v := 1) hx hb hr rfl (fun t ht hW => ⟨⟨1, (), rfl, Or.inr ⟨rfl, by omega⟩, ws_3, ty_4, hsm, htx, by rw [ht]; exact hP, va_K.moved hW.alike hK, hD, trivial⟩, hS.F ht⟩) hS.2.2 dX4_isAndOr_29
set_option maxHeartbeats 4000000 in
set_option maxRecDepth 100000 in
theorem r_isKeptWord (l : Launch) (D : va_G) (ρ : Nat → Nat) (ws : va_W) (tys : List (ClassId × FieldType)) (adK adV : Nat → Nat) (fo : Option Nat) (f9 : Nat → Int32) (rd krd tp ktp cd tl ts : Nat) (nk : Int64) (fr fk fp r6 vl : Int32) (bb kbb : Nat) (cbb : ClassId) (tbb : Nat) (fbb : Nat → Int32) (sz : Nat) (erd : ws[krd]? = some (rd, .inr (4, [.ref tp, .long nk, .int fr, .int fk, .int fp, .ref cd, .int r6, .int vl]))) (htl : tl ≤ 400) (hbf : ∀ i : Nat, i < tl → fbb i = f9 i) (hng : ∀ i : Nat, i < tl → ¬ f9 i = -1) (hpc : pcB f9 tl ts) (etp : ws[ktp]? = some (tp, .inr (6, [.int (nI tl), .int (nI (kdF f9 tl ts)), .int (nI ts), .int (nI (teF f9 tl ts)), .ref bb]))) (ebb : ws[kbb]? = some (bb, .inl (cbb, 400, .inl fbb))) (ubb : tys[tbb]? = some (cbb, .int))(hkb : ρ kbb ≠ 0)  : Met l yX4_isKeptWord wsX4_isKeptWord ({ frames := 6, cells := 0, slots := 0, locals := 127 }) (va_Pc [.ref rd] (fun U => U.heap.size = sz ∧ va_P D vwCl ws U.heap ∧ va_K D vwCl tys U ∧ va_D (fun _ => True) ws ∧ SZ adK adV fo (va_A ws sz) U U.heap)) (va_Qi (fun (r : Int32) (_ : Unit) => (r = 0 ∧ (¬ kdF f9 tl ts = 1 ∨ wdE f9 tl ts = 11)) ∨ (r = 1 ∧ ¬ wdE f9 tl ts = 11)) (fun (_ : Unit) (t : State) => ∃ (ws' : va_W) (tys' : List (ClassId × FieldType)), sm ρ [] ws ws' ∧ tyx tys tys' ∧ va_P D vwCl ws' t.heap ∧ va_K D vwCl tys' t ∧ va_D (va_A ws sz) ws' ∧ (True)) (va_A ws sz)) 0 0 (va_A ws sz) := by
  refine Met.ofW (cc := cX4_isKeptWord) (maxL := 1) (ret := (some .boolean)) (by decide) rfl ?_
  intro p e s m args below meth c s₁ B hml hv
  obtain ⟨rfl, hsz, hP, hK, hD0, hsz9⟩ := hv
  have hx := B.exec
  have hb := B.bytes
  have hr := B.returns
  have hts := atoms_spec (ws := wsX4_isKeptWord) B.pre
  have hown : s.vm.findClass RX4 = some m.cls := findClass_of_methodNamed B.named
  have hlocks := B.notSynchronized
  subst hsz
  have hD := hD0.self (sz := s.heap.size)
  generalize hAe : va_A ws s.heap.size = A at hD hsz9 ⊢
  have hA : ∀ q : Nat, s.heap.size ≤ q → A q := fun q h => by rw [← hAe]; exact Or.inr h
  have hS : va_S A s.heap s.heap [] := va_S.rf
  have hsm : sm ρ [] ws ws := sm.rf ws
  have htx : tyx tys tys := tyx.rf tys
  have hin4 : ∀ w ∈ u_ws RX4 TX4 8, w ∈ wsX4_isKeptWord := (fun _ h9 => List.mem_cons_of_mem _ (List.mem_append_left _ ((List.mem_append_right _ h9))))
  have hl := lv_entry ([.ref rd]) (n := 1) (Nat.le_of_ble_eq_true rfl)
  rw [lg_entry_eq]
  generalize (lg_sl ([.ref rd]) ++ List.replicate (1 - (lg_sl ([.ref rd])).length) Slot.unset).toArray = ls at hl ⊢
  have hl : lv_has ls 1 [(0, .ref rd)] := hl
  refine lv_aload_n hx hb dX4_isKeptWord_0 rfl (lv_at hl 0 rfl) ?_
  refine va_get (D := D) (ci := 4) (v := .ref tp) (C := RX4) (T := TX4) (N := 8) hx hb hts hin4 hown hK hP krd erd rfl 0 (by decide) (hts (.fieldLink RX4 12 "HoneyHouse$RuleReader" "tape" "LHoneyHouse$Tape;") (List.mem_of_getElem? (i := 1) rfl)) (fun _ h9 => h9) rfl dX4_isKeptWord_1 ?_
  refine va_ldcS hx hb hown hsz9.2.2.2.2.1 dX4_isKeptWord_4 ?_
  have hFc := free_all hD hS hA
  refine va_calli (va_runV (As := [.ref (adK 1)]) (rest := []) ⟨hx, hb, hml, hown, hts⟩ (a_isWord l D ρ ws tys adK adV fo 1 f9 tp ktp tl ts bb kbb cbb tbb fbb s.heap.size (by decide) htl hbf hng hpc etp ebb ubb hkb) (cwV 1 hts gX4_isKeptWord_X6_isWord rfl rfl rfl (by decide +kernel) ⟨Nat.le_of_ble_eq_true rfl, Nat.le_of_ble_eq_true rfl⟩) ⟨fun a U g mk q => by obtain ⟨q0, q1, qP, qK, qD, qS⟩ := q; exact ⟨q0, q1, qP, va_K.moved (u := U) (U := U.calling g mk a) (Vm.Alike.refl U.vm) qK, qD, SZ.same rfl rfl qS⟩, va_recv hK hP (ci := 6) (q0 := ktp) rfl etp, fun U hU hW => ⟨rfl, by rw [hU], by rw [hU]; exact hP, va_K.moved hW.alike hK, hD.weaken (fun _ _ _ _ => trivial), hsz9.go hS hW hU hFc⟩⟩ rfl rfl hl.1 rfl (lv_room (Nat.le_of_ble_eq_true rfl)) dX4_isKeptWord_6 ⟨Nat.le_of_ble_eq_true rfl, Nat.le_of_ble_eq_true rfl⟩) hS (fun q _ h => hFc q h) hFc (fun r_1 u t H1 locs ht hvm w_2 hB hz1 hk1 hS => ?_)
  obtain ⟨ws_3, ty_4, hm_5, ht_7, hP1, hK1, hD1, hx_6⟩ := hB
  rw [ht] at hP1
  have hK := va_K.moved hvm.symm hK1
  have hD := hD1.weaken (fun _ _ _ h => hFc _ h)
  generalize H1 = H at hP1 hS ⊢
  have hP := hP1
  have e_8 := hm_5.objK erd (by decide)
  have e_9 := hm_5.objK etp (by decide)
  have e_10 := hm_5.keep hkb ebb
  have u_11 := ht_7 _ _ ubb
  have hsm := hsm.tr (hm_5.mono (by decide))
  have htx := htx.tr ht_7
  rcases w_2 with ⟨rfl, iw_12⟩ | ⟨rfl, iw_12⟩
  · have iw_12 : ¬ wdE f9 tl ts = 1 := iw_12
    refine lv_if_ne (tgt := 80) hx hb dX4_isKeptWord_9 (by decide) (fun c_13 => absurd (by decide) c_13) (fun c_13 => ?_)
    refine lv_aload_n hx hb dX4_isKeptWord_12 rfl (lv_at hl 0 rfl) ?_
    refine va_get (D := D) (ci := 4) (v := .ref tp) (C := RX4) (T := TX4) (N := 8) hx hb hts hin4 hown hK hP krd e_8 rfl 0 (by decide) (hts (.fieldLink RX4 12 "HoneyHouse$RuleReader" "tape" "LHoneyHouse$Tape;") (List.mem_of_getElem? (i := 1) rfl)) (fun _ h9 => h9) rfl dX4_isKeptWord_13 ?_
    refine va_ldcS hx hb hown hsz9.2.2.2.2.2.1 dX4_isKeptWord_16 ?_
    have hFc := free_all hD hS hA
    refine va_calli (va_runV (As := [.ref (adK 2)]) (rest := []) ⟨hx, hb, hml, hown, hts⟩ (a_isWord l D ρ ws_3 ty_4 adK adV fo 2 f9 tp ktp tl ts bb kbb cbb tbb fbb H.size (by decide) htl hbf hng hpc e_9 e_10 u_11 hkb) (cwV 1 hts gX4_isKeptWord_X6_isWord rfl rfl rfl (by decide +kernel) ⟨Nat.le_of_ble_eq_true rfl, Nat.le_of_ble_eq_true rfl⟩) ⟨fun a U g mk q => by obtain ⟨q0, q1, qP, qK, qD, qS⟩ := q; exact ⟨q0, q1, qP, va_K.moved (u := U) (U := U.calling g mk a) (Vm.Alike.refl U.vm) qK, qD, SZ.same rfl rfl qS⟩, va_recv hK hP (ci := 6) (q0 := ktp) rfl e_9, fun U hU hW => ⟨rfl, by rw [hU], by rw [hU]; exact hP, va_K.moved hW.alike hK, hD.weaken (fun _ _ _ _ => trivial), hsz9.go hS hW hU hFc⟩⟩ rfl rfl hl.1 rfl (lv_room (Nat.le_of_ble_eq_true rfl)) dX4_isKeptWord_18 ⟨Nat.le_of_ble_eq_true rfl, Nat.le_of_ble_eq_true rfl⟩) hS (fun q _ h => hFc q h) hFc (fun r_14 u t H1 locs ht hvm w_15 hB hz1 hk1 hS => ?_)
    obtain ⟨ws_16, ty_17, hm_18, ht_20, hP1, hK1, hD1, hx_19⟩ := hB
    rw [ht] at hP1
    have hK := va_K.moved hvm.symm hK1
    have hD := hD1.weaken (fun _ _ _ h => hFc _ h)
    generalize H1 = H at hP1 hS ⊢
    have hP := hP1
    have e_21 := hm_18.objK e_8 (by decide)
    have e_22 := hm_18.objK e_9 (by decide)
    have e_23 := hm_18.keep hkb e_10
    have u_24 := ht_20 _ _ u_11
    have hsm := hsm.tr (hm_18.mono (by decide))
    have htx := htx.tr ht_20
    rcases w_15 with ⟨rfl, iw_25⟩ | ⟨rfl, iw_25⟩
    · have iw_25 : ¬ wdE f9 tl ts = 2 := iw_25
      refine lv_if_ne (tgt := 80) hx hb dX4_isKeptWord_21 (by decide) (fun c_26 => absurd (by decide) c_26) (fun c_26 => ?_)
      refine lv_aload_n hx hb dX4_isKeptWord_24 rfl (lv_at hl 0 rfl) ?_
      refine va_get (D := D) (ci := 4) (v := .ref tp) (C := RX4) (T := TX4) (N := 8) hx hb hts hin4 hown hK hP krd e_21 rfl 0 (by decide) (hts (.fieldLink RX4 12 "HoneyHouse$RuleReader" "tape" "LHoneyHouse$Tape;") (List.mem_of_getElem? (i := 1) rfl)) (fun _ h9 => h9) rfl dX4_isKeptWord_25 ?_
      refine va_ldcS hx hb hown hsz9.2.2.2.2.2.2.1 dX4_isKeptWord_28 ?_
      have hFc := free_all hD hS hA
      refine va_calli (va_runV (As := [.ref (adK 3)]) (rest := []) ⟨hx, hb, hml, hown, hts⟩ (a_isWord l D ρ ws_16 ty_17 adK adV fo 3 f9 tp ktp tl ts bb kbb cbb tbb fbb H.size (by decide) htl hbf hng hpc e_22 e_23 u_24 hkb) (cwV 1 hts gX4_isKeptWord_X6_isWord rfl rfl rfl (by decide +kernel) ⟨Nat.le_of_ble_eq_true rfl, Nat.le_of_ble_eq_true rfl⟩) ⟨fun a U g mk q => by obtain ⟨q0, q1, qP, qK, qD, qS⟩ := q; exact ⟨q0, q1, qP, va_K.moved (u := U) (U := U.calling g mk a) (Vm.Alike.refl U.vm) qK, qD, SZ.same rfl rfl qS⟩, va_recv hK hP (ci := 6) (q0 := ktp) rfl e_22, fun U hU hW => ⟨rfl, by rw [hU], by rw [hU]; exact hP, va_K.moved hW.alike hK, hD.weaken (fun _ _ _ _ => trivial), hsz9.go hS hW hU hFc⟩⟩ rfl rfl hl.1 rfl (lv_room (Nat.le_of_ble_eq_true rfl)) dX4_isKeptWord_30 ⟨Nat.le_of_ble_eq_true rfl, Nat.le_of_ble_eq_true rfl⟩) hS (fun q _ h => hFc q h) hFc (fun r_27 u t H1 locs ht hvm w_28 hB hz1 hk1 hS => ?_)
      obtain ⟨ws_29, ty_30, hm_31, ht_33, hP1, hK1, hD1, hx_32⟩ := hB
      rw [ht] at hP1
      have hK := va_K.moved hvm.symm hK1
      have hD := hD1.weaken (fun _ _ _ h => hFc _ h)
      generalize H1 = H at hP1 hS ⊢
      have hP := hP1
      have e_34 := hm_31.objK e_21 (by decide)
      have e_35 := hm_31.objK e_22 (by decide)
      have e_36 := hm_31.keep hkb e_23
      have u_37 := ht_33 _ _ u_24
      have hsm := hsm.tr (hm_31.mono (by decide))
      have htx := htx.tr ht_33
      rcases w_28 with ⟨rfl, iw_38⟩ | ⟨rfl, iw_38⟩
      · have iw_38 : ¬ wdE f9 tl ts = 3 := iw_38
        refine lv_if_ne (tgt := 80) hx hb dX4_isKeptWord_33 (by decide) (fun c_39 => absurd (by decide) c_39) (fun c_39 => ?_)
        refine lv_aload_n hx hb dX4_isKeptWord_36 rfl (lv_at hl 0 rfl) ?_
        refine va_get (D := D) (ci := 4) (v := .ref tp) (C := RX4) (T := TX4) (N := 8) hx hb hts hin4 hown hK hP krd e_34 rfl 0 (by decide) (hts (.fieldLink RX4 12 "HoneyHouse$RuleReader" "tape" "LHoneyHouse$Tape;") (List.mem_of_getElem? (i := 1) rfl)) (fun _ h9 => h9) rfl dX4_isKeptWord_37 ?_
        refine va_ldcS hx hb hown hsz9.2.2.2.2.2.2.2.1 dX4_isKeptWord_40 ?_
        have hFc := free_all hD hS hA
        refine va_calli (va_runV (As := [.ref (adK 4)]) (rest := []) ⟨hx, hb, hml, hown, hts⟩ (a_isWord l D ρ ws_29 ty_30 adK adV fo 4 f9 tp ktp tl ts bb kbb cbb tbb fbb H.size (by decide) htl hbf hng hpc e_35 e_36 u_37 hkb) (cwV 1 hts gX4_isKeptWord_X6_isWord rfl rfl rfl (by decide +kernel) ⟨Nat.le_of_ble_eq_true rfl, Nat.le_of_ble_eq_true rfl⟩) ⟨fun a U g mk q => by obtain ⟨q0, q1, qP, qK, qD, qS⟩ := q; exact ⟨q0, q1, qP, va_K.moved (u := U) (U := U.calling g mk a) (Vm.Alike.refl U.vm) qK, qD, SZ.same rfl rfl qS⟩, va_recv hK hP (ci := 6) (q0 := ktp) rfl e_35, fun U hU hW => ⟨rfl, by rw [hU], by rw [hU]; exact hP, va_K.moved hW.alike hK, hD.weaken (fun _ _ _ _ => trivial), hsz9.go hS hW hU hFc⟩⟩ rfl rfl hl.1 rfl (lv_room (Nat.le_of_ble_eq_true rfl)) dX4_isKeptWord_42 ⟨Nat.le_of_ble_eq_true rfl, Nat.le_of_ble_eq_true rfl⟩) hS (fun q _ h => hFc q h) hFc (fun r_40 u t H1 locs ht hvm w_41 hB hz1 hk1 hS => ?_)
        obtain ⟨ws_42, ty_43, hm_44, ht_46, hP1, hK1, hD1, hx_45⟩ := hB
        rw [ht] at hP1
        have hK := va_K.moved hvm.symm hK1
        have hD := hD1.weaken (fun _ _ _ h => hFc _ h)
        generalize H1 = H at hP1 hS ⊢
        have hP := hP1
        have e_47 := hm_44.objK e_34 (by decide)
        have e_48 := hm_44.objK e_35 (by decide)
        have e_49 := hm_44.keep hkb e_36
        have u_50 := ht_46 _ _ u_37
        have hsm := hsm.tr (hm_44.mono (by decide))
        have htx := htx.tr ht_46
        rcases w_41 with ⟨rfl, iw_51⟩ | ⟨rfl, iw_51⟩
        · have iw_51 : ¬ wdE f9 tl ts = 9 := iw_51
          refine lv_if_ne (tgt := 80) hx hb dX4_isKeptWord_45 (by decide) (fun c_52 => absurd (by decide) c_52) (fun c_52 => ?_)
          refine lv_aload_n hx hb dX4_isKeptWord_48 rfl (lv_at hl 0 rfl) ?_
          refine va_get (D := D) (ci := 4) (v := .ref tp) (C := RX4) (T := TX4) (N := 8) hx hb hts hin4 hown hK hP krd e_47 rfl 0 (by decide) (hts (.fieldLink RX4 12 "HoneyHouse$RuleReader" "tape" "LHoneyHouse$Tape;") (List.mem_of_getElem? (i := 1) rfl)) (fun _ h9 => h9) rfl dX4_isKeptWord_49 ?_
          refine va_ldcS hx hb hown hsz9.2.2.2.2.2.2.2.2.1 dX4_isKeptWord_52 ?_
          have hFc := free_all hD hS hA
          refine va_calli (va_runV (As := [.ref (adK 5)]) (rest := []) ⟨hx, hb, hml, hown, hts⟩ (a_isWord l D ρ ws_42 ty_43 adK adV fo 5 f9 tp ktp tl ts bb kbb cbb tbb fbb H.size (by decide) htl hbf hng hpc e_48 e_49 u_50 hkb) (cwV 1 hts gX4_isKeptWord_X6_isWord rfl rfl rfl (by decide +kernel) ⟨Nat.le_of_ble_eq_true rfl, Nat.le_of_ble_eq_true rfl⟩) ⟨fun a U g mk q => by obtain ⟨q0, q1, qP, qK, qD, qS⟩ := q; exact ⟨q0, q1, qP, va_K.moved (u := U) (U := U.calling g mk a) (Vm.Alike.refl U.vm) qK, qD, SZ.same rfl rfl qS⟩, va_recv hK hP (ci := 6) (q0 := ktp) rfl e_48, fun U hU hW => ⟨rfl, by rw [hU], by rw [hU]; exact hP, va_K.moved hW.alike hK, hD.weaken (fun _ _ _ _ => trivial), hsz9.go hS hW hU hFc⟩⟩ rfl rfl hl.1 rfl (lv_room (Nat.le_of_ble_eq_true rfl)) dX4_isKeptWord_54 ⟨Nat.le_of_ble_eq_true rfl, Nat.le_of_ble_eq_true rfl⟩) hS (fun q _ h => hFc q h) hFc (fun r_53 u t H1 locs ht hvm w_54 hB hz1 hk1 hS => ?_)
          obtain ⟨ws_55, ty_56, hm_57, ht_59, hP1, hK1, hD1, hx_58⟩ := hB
          rw [ht] at hP1
          have hK := va_K.moved hvm.symm hK1
          have hD := hD1.weaken (fun _ _ _ h => hFc _ h)
          generalize H1 = H at hP1 hS ⊢
          have hP := hP1
          have e_60 := hm_57.objK e_47 (by decide)
          have e_61 := hm_57.objK e_48 (by decide)
          have e_62 := hm_57.keep hkb e_49
          have u_63 := ht_59 _ _ u_50
          have hsm := hsm.tr (hm_57.mono (by decide))
          have htx := htx.tr ht_59
          rcases w_54 with ⟨rfl, iw_64⟩ | ⟨rfl, iw_64⟩
          · have iw_64 : ¬ wdE f9 tl ts = 10 := iw_64
            refine lv_if_ne (tgt := 80) hx hb dX4_isKeptWord_57 (by decide) (fun c_65 => absurd (by decide) c_65) (fun c_65 => ?_)
            refine lv_aload_n hx hb dX4_isKeptWord_60 rfl (lv_at hl 0 rfl) ?_
            refine va_get (D := D) (ci := 4) (v := .ref tp) (C := RX4) (T := TX4) (N := 8) hx hb hts hin4 hown hK hP krd e_60 rfl 0 (by decide) (hts (.fieldLink RX4 12 "HoneyHouse$RuleReader" "tape" "LHoneyHouse$Tape;") (List.mem_of_getElem? (i := 1) rfl)) (fun _ h9 => h9) rfl dX4_isKeptWord_61 ?_
            refine va_ldcS hx hb hown hsz9.2.2.2.1 dX4_isKeptWord_64 ?_
            have hFc := free_all hD hS hA
            refine va_calli (va_runV (As := [.ref (adK 0)]) (rest := []) ⟨hx, hb, hml, hown, hts⟩ (a_isWord l D ρ ws_55 ty_56 adK adV fo 0 f9 tp ktp tl ts bb kbb cbb tbb fbb H.size (by decide) htl hbf hng hpc e_61 e_62 u_63 hkb) (cwV 1 hts gX4_isKeptWord_X6_isWord rfl rfl rfl (by decide +kernel) ⟨Nat.le_of_ble_eq_true rfl, Nat.le_of_ble_eq_true rfl⟩) ⟨fun a U g mk q => by obtain ⟨q0, q1, qP, qK, qD, qS⟩ := q; exact ⟨q0, q1, qP, va_K.moved (u := U) (U := U.calling g mk a) (Vm.Alike.refl U.vm) qK, qD, SZ.same rfl rfl qS⟩, va_recv hK hP (ci := 6) (q0 := ktp) rfl e_61, fun U hU hW => ⟨rfl, by rw [hU], by rw [hU]; exact hP, va_K.moved hW.alike hK, hD.weaken (fun _ _ _ _ => trivial), hsz9.go hS hW hU hFc⟩⟩ rfl rfl hl.1 rfl (lv_room (Nat.le_of_ble_eq_true rfl)) dX4_isKeptWord_66 ⟨Nat.le_of_ble_eq_true rfl, Nat.le_of_ble_eq_true rfl⟩) hS (fun q _ h => hFc q h) hFc (fun r_66 u t H1 locs ht hvm w_67 hB hz1 hk1 hS => ?_)
            obtain ⟨ws_68, ty_69, hm_70, ht_72, hP1, hK1, hD1, hx_71⟩ := hB
            rw [ht] at hP1
            have hK := va_K.moved hvm.symm hK1
            have hD := hD1.weaken (fun _ _ _ h => hFc _ h)
            generalize H1 = H at hP1 hS ⊢
            have hP := hP1
            have e_73 := hm_70.objK e_60 (by decide)
            have e_74 := hm_70.objK e_61 (by decide)
            have e_75 := hm_70.keep hkb e_62
            have u_76 := ht_72 _ _ u_63
            have hsm := hsm.tr (hm_70.mono (by decide))
            have htx := htx.tr ht_72
            rcases w_67 with ⟨rfl, iw_77⟩ | ⟨rfl, iw_77⟩
            · have iw_77 : ¬ wdE f9 tl ts = 0 := iw_77
              refine lv_if_ne (tgt := 80) hx hb dX4_isKeptWord_69 (by decide) (fun c_78 => absurd (by decide) c_78) (fun c_78 => ?_)
              refine lv_aload_n hx hb dX4_isKeptWord_72 rfl (lv_at hl 0 rfl) ?_
              have hFc := free_all hD hS hA
              refine va_calli (va_runV (As := []) (rest := []) ⟨hx, hb, hml, hown, hts⟩ (r_measureNamed l D ρ ws_68 ty_69 adK adV fo f9 rd krd tp ktp cd tl ts nk fr fk fp r6 vl bb kbb cbb tbb fbb H.size e_73 htl hbf hng hpc e_74 e_75 u_76 hkb) (cwV 0 hts gX4_isKeptWord_X4_measureNamed rfl rfl rfl (by decide +kernel) ⟨Nat.le_of_ble_eq_true rfl, Nat.le_of_ble_eq_true rfl⟩) ⟨fun a U g mk q => by obtain ⟨q0, q1, qP, qK, qD, qS⟩ := q; exact ⟨q0, q1, qP, va_K.moved (u := U) (U := U.calling g mk a) (Vm.Alike.refl U.vm) qK, qD, SZ.same rfl rfl qS⟩, va_recv hK hP (ci := 4) (q0 := krd) rfl e_73, fun U hU hW => ⟨rfl, by rw [hU], by rw [hU]; exact hP, va_K.moved hW.alike hK, hD.weaken (fun _ _ _ _ => trivial), hsz9.go hS hW hU hFc⟩⟩ rfl rfl hl.1 rfl (lv_room (Nat.le_of_ble_eq_true rfl)) dX4_isKeptWord_73 ⟨Nat.le_of_ble_eq_true rfl, Nat.le_of_ble_eq_true rfl⟩) hS (fun q _ h => hFc q h) hFc (fun r_79 u t H1 locs ht hvm w_80 hB hz1 hk1 hS => ?_)
              obtain ⟨ws_81, ty_82, hm_83, ht_85, hP1, hK1, hD1, hx_84⟩ := hB
              rw [ht] at hP1
              have hK := va_K.moved hvm.symm hK1
              have hD := hD1.weaken (fun _ _ _ h => hFc _ h)
              generalize H1 = H at hP1 hS ⊢
              have hP := hP1
              have e_86 := hm_83.objK e_73 (by decide)
              have e_87 := hm_83.objK e_74 (by decide)
              have e_88 := hm_83.keep hkb e_75
              have u_89 := ht_85 _ _ u_76
              have hsm := hsm.tr (hm_83.mono (by decide))
              have htx := htx.tr ht_85
              rcases w_80 with ⟨mn_90, rfl⟩ | ⟨mn_90, rfl⟩ | ⟨mn_90, rfl⟩ | ⟨mn_90, rfl⟩ | ⟨mn_90, rfl⟩ | ⟨mn_90, rfl⟩
              · refine lv_iconst (v := (-1)) hx hb dX4_isKeptWord_76 (by decide) ?_
                refine lv_icmp_eq (tgt := 84) hx hb dX4_isKeptWord_77 (by decide) (fun c_91 => absurd c_91 (by decide)) (fun c_91 => ?_)
                refine lv_iconst (v := 1) hx hb dX4_isKeptWord_80 (by decide) ?_
                refine lv_goto (tgt := 85) hx hb dX4_isKeptWord_81 (by decide) ?_
                exact W.zret (v := 1) hx hb hr rfl (fun t ht hW => ⟨⟨1, (), rfl, Or.inr ⟨rfl, by omega⟩, ws_81, ty_82, hsm, htx, by rw [ht]; exact hP, va_K.moved hW.alike hK, hD, trivial⟩, hS.F ht⟩) hS.2.2 dX4_isKeptWord_85
              · refine lv_iconst (v := (-1)) hx hb dX4_isKeptWord_76 (by decide) ?_
                refine lv_icmp_eq (tgt := 84) hx hb dX4_isKeptWord_77 (by decide) (fun c_92 => absurd c_92 (by decide)) (fun c_92 => ?_)
                refine lv_iconst (v := 1) hx hb dX4_isKeptWord_80 (by decide) ?_
                refine lv_goto (tgt := 85) hx hb dX4_isKeptWord_81 (by decide) ?_
                exact W.zret (v := 1) hx hb hr rfl (fun t ht hW => ⟨⟨1, (), rfl, Or.inr ⟨rfl, by omega⟩, ws_81, ty_82, hsm, htx, by rw [ht]; exact hP, va_K.moved hW.alike hK, hD, trivial⟩, hS.F ht⟩) hS.2.2 dX4_isKeptWord_85
              · refine lv_iconst (v := (-1)) hx hb dX4_isKeptWord_76 (by decide) ?_
                refine lv_icmp_eq (tgt := 84) hx hb dX4_isKeptWord_77 (by decide) (fun c_93 => absurd c_93 (by decide)) (fun c_93 => ?_)
                refine lv_iconst (v := 1) hx hb dX4_isKeptWord_80 (by decide) ?_
                refine lv_goto (tgt := 85) hx hb dX4_isKeptWord_81 (by decide) ?_
                exact W.zret (v := 1) hx hb hr rfl (fun t ht hW => ⟨⟨1, (), rfl, Or.inr ⟨rfl, by omega⟩, ws_81, ty_82, hsm, htx, by rw [ht]; exact hP, va_K.moved hW.alike hK, hD, trivial⟩, hS.F ht⟩) hS.2.2 dX4_isKeptWord_85
              · refine lv_iconst (v := (-1)) hx hb dX4_isKeptWord_76 (by decide) ?_
                refine lv_icmp_eq (tgt := 84) hx hb dX4_isKeptWord_77 (by decide) (fun c_94 => absurd c_94 (by decide)) (fun c_94 => ?_)
                refine lv_iconst (v := 1) hx hb dX4_isKeptWord_80 (by decide) ?_
                refine lv_goto (tgt := 85) hx hb dX4_isKeptWord_81 (by decide) ?_
                exact W.zret (v := 1) hx hb hr rfl (fun t ht hW => ⟨⟨1, (), rfl, Or.inr ⟨rfl, by omega⟩, ws_81, ty_82, hsm, htx, by rw [ht]; exact hP, va_K.moved hW.alike hK, hD, trivial⟩, hS.F ht⟩) hS.2.2 dX4_isKeptWord_85
              · refine lv_iconst (v := (-1)) hx hb dX4_isKeptWord_76 (by decide) ?_
                refine lv_icmp_eq (tgt := 84) hx hb dX4_isKeptWord_77 (by decide) (fun c_95 => absurd c_95 (by decide)) (fun c_95 => ?_)
                refine lv_iconst (v := 1) hx hb dX4_isKeptWord_80 (by decide) ?_
                refine lv_goto (tgt := 85) hx hb dX4_isKeptWord_81 (by decide) ?_
                exact W.zret (v := 1) hx hb hr rfl (fun t ht hW => ⟨⟨1, (), rfl, Or.inr ⟨rfl, by omega⟩, ws_81, ty_82, hsm, htx, by rw [ht]; exact hP, va_K.moved hW.alike hK, hD, trivial⟩, hS.F ht⟩) hS.2.2 dX4_isKeptWord_85
              refine lv_iconst (v := (-1)) hx hb dX4_isKeptWord_76 (by decide) ?_
              refine lv_icmp_eq (tgt := 84) hx hb dX4_isKeptWord_77 (by decide) (fun c_96 => ?_) (fun c_96 => absurd (by decide) c_96)
              refine lv_iconst (v := 0) hx hb dX4_isKeptWord_84 (by decide) ?_
              exact W.zret (v := 0) hx hb hr rfl (fun t ht hW => ⟨⟨0, (), rfl, Or.inl ⟨rfl, by have h9 := wdE_c (f := f9) (n := tl) (b := ts); omega⟩, ws_81, ty_82, hsm, htx, by rw [ht]; exact hP, va_K.moved hW.alike hK, hD, trivial⟩, hS.F ht⟩) hS.2.2 dX4_isKeptWord_85
            have iw_77 : wdE f9 tl ts = 0 := iw_77
            refine lv_if_ne (tgt := 80) hx hb dX4_isKeptWord_69 (by decide) (fun c_97 => ?_) (fun c_97 => absurd c_97 (by decide))
            refine lv_iconst (v := 1) hx hb dX4_isKeptWord_80 (by decide) ?_
            refine lv_goto (tgt := 85) hx hb dX4_isKeptWord_81 (by decide) ?_
            exact W.zret (v := 1) hx hb hr rfl (fun t ht hW => ⟨⟨1, (), rfl, Or.inr ⟨rfl, by omega⟩, ws_68, ty_69, hsm, htx, by rw [ht]; exact hP, va_K.moved hW.alike hK, hD, trivial⟩, hS.F ht⟩) hS.2.2 dX4_isKeptWord_85
          have iw_64 : wdE f9 tl ts = 10 := iw_64
          refine lv_if_ne (tgt := 80) hx hb dX4_isKeptWord_57 (by decide) (fun c_98 => ?_) (fun c_98 => absurd c_98 (by decide))
          refine lv_iconst (v := 1) hx hb dX4_isKeptWord_80 (by decide) ?_
          refine lv_goto (tgt := 85) hx hb dX4_isKeptWord_81 (by decide) ?_
          exact W.zret (v := 1) hx hb hr rfl (fun t ht hW => ⟨⟨1, (), rfl, Or.inr ⟨rfl, by omega⟩, ws_55, ty_56, hsm, htx, by rw [ht]; exact hP, va_K.moved hW.alike hK, hD, trivial⟩, hS.F ht⟩) hS.2.2 dX4_isKeptWord_85
        have iw_51 : wdE f9 tl ts = 9 := iw_51
        refine lv_if_ne (tgt := 80) hx hb dX4_isKeptWord_45 (by decide) (fun c_99 => ?_) (fun c_99 => absurd c_99 (by decide))
        refine lv_iconst (v := 1) hx hb dX4_isKeptWord_80 (by decide) ?_
        refine lv_goto (tgt := 85) hx hb dX4_isKeptWord_81 (by decide) ?_
        exact W.zret (v := 1) hx hb hr rfl (fun t ht hW => ⟨⟨1, (), rfl, Or.inr ⟨rfl, by omega⟩, ws_42, ty_43, hsm, htx, by rw [ht]; exact hP, va_K.moved hW.alike hK, hD, trivial⟩, hS.F ht⟩) hS.2.2 dX4_isKeptWord_85
      have iw_38 : wdE f9 tl ts = 3 := iw_38
      refine lv_if_ne (tgt := 80) hx hb dX4_isKeptWord_33 (by decide) (fun c_100 => ?_) (fun c_100 => absurd c_100 (by decide))
      refine lv_iconst (v := 1) hx hb dX4_isKeptWord_80 (by decide) ?_
      refine lv_goto (tgt := 85) hx hb dX4_isKeptWord_81 (by decide) ?_
      exact W.zret (v := 1) hx hb hr rfl (fun t ht hW => ⟨⟨1, (), rfl, Or.inr ⟨rfl, by omega⟩, ws_29, ty_30, hsm, htx, by rw [ht]; exact hP, va_K.moved hW.alike hK, hD, trivial⟩, hS.F ht⟩) hS.2.2 dX4_isKeptWord_85
    have iw_25 : wdE f9 tl ts = 2 := iw_25
    refine lv_if_ne (tgt := 80) hx hb dX4_isKeptWord_21 (by decide) (fun c_101 => ?_) (fun c_101 => absurd c_101 (by decide))
    refine lv_iconst (v := 1) hx hb dX4_isKeptWord_80 (by decide) ?_
    refine lv_goto (tgt := 85) hx hb dX4_isKeptWord_81 (by decide) ?_
    exact W.zret (v := 1) hx hb hr rfl (fun t ht hW => ⟨⟨1, (), rfl, Or.inr ⟨rfl, by omega⟩, ws_16, ty_17, hsm, htx, by rw [ht]; exact hP, va_K.moved hW.alike hK, hD, trivial⟩, hS.F ht⟩) hS.2.2 dX4_isKeptWord_85
  have iw_12 : wdE f9 tl ts = 1 := iw_12
  refine lv_if_ne (tgt := 80) hx hb dX4_isKeptWord_9 (by decide) (fun c_102 => ?_) (fun c_102 => absurd c_102 (by decide))
  refine lv_iconst (v := 1) hx hb dX4_isKeptWord_80 (by decide) ?_
  refine lv_goto (tgt := 85) hx hb dX4_isKeptWord_81 (by decide) ?_
  exact W.zret (v := 1) hx hb hr rfl (fun t ht hW => ⟨⟨1, (), rfl, Or.inr ⟨rfl, by omega⟩, ws_3, ty_4, hsm, htx, by rw [ht]; exact hP, va_K.moved hW.alike hK, hD, trivial⟩, hS.F ht⟩) hS.2.2 dX4_isKeptWord_85
set_option maxHeartbeats 4000000 in
set_option maxRecDepth 100000 in
theorem r_readByte (l : Launch) (D : va_G) (ρ : Nat → Nat) (ws : va_W) (tys : List (ClassId × FieldType)) (adK adV : Nat → Nat) (fo : Option Nat) (f9 : Nat → Int32) (rd krd tp ktp cd bb tl ts : Nat) (T : List Tk) (nk : Int64) (fr fk fp vl : Int32) (a1 : Int32) (sz : Nat) (htl : tl ≤ 400) (hng : ∀ i : Nat, i < tl → ¬ f9 i = -1) (R0 : RSX ρ ws tys f9 rd krd tp ktp cd bb tl ts T nk fr fk fp vl) (ho1 : ¬ ltr a1) (ho2 : ¬ dgt a1) : Met l yX4_readByte wsX4_readByte ({ frames := 2, cells := 0, slots := 0, locals := 43 }) (va_Pc [.ref rd, .int a1] (fun U => U.heap.size = sz ∧ va_P D vwCl ws U.heap ∧ va_K D vwCl tys U ∧ va_D (fun _ => True) ws ∧ SZ adK adV fo (va_A ws sz) U U.heap)) (va_Qi (fun (r : Int32) (s9 : Int32) => r = s9) (fun (s9 : Int32) (t : State) => ∃ (ws' : va_W) (tys' : List (ClassId × FieldType)), sm ρ [4, 6] ws ws' ∧ tyx tys tys' ∧ va_P D vwCl ws' t.heap ∧ va_K D vwCl tys' t ∧ va_D (va_A ws sz) ws' ∧ ((s9 = 0 ∧ ¬ (ts < tl ∧ f9 ts = a1) ∧ RSX ρ ws' tys' f9 rd krd tp ktp cd bb tl ts T nk fr 1 (nI ts) vl) ∨ (s9 = 1 ∧ (ts < tl ∧ f9 ts = a1) ∧ RSX ρ ws' tys' f9 rd krd tp ktp cd bb tl (nxF f9 tl ts) T nk fr fk fp vl))) (va_A ws sz)) 0 0 (va_A ws sz) := by
  refine Met.ofW (cc := cX4_readByte) (maxL := 2) (ret := (some .boolean)) (by decide) rfl ?_
  intro p e s m args below meth c s₁ B hml hv
  obtain ⟨rfl, hsz, hP, hK, hD0, hsz9⟩ := hv
  have hx := B.exec
  have hb := B.bytes
  have hr := B.returns
  have hts := atoms_spec (ws := wsX4_readByte) B.pre
  have hown : s.vm.findClass RX4 = some m.cls := findClass_of_methodNamed B.named
  have hlocks := B.notSynchronized
  subst hsz
  have hD := hD0.self (sz := s.heap.size)
  generalize hAe : va_A ws s.heap.size = A at hD hsz9 ⊢
  have hA : ∀ q : Nat, s.heap.size ≤ q → A q := fun q h => by rw [← hAe]; exact Or.inr h
  have hS : va_S A s.heap s.heap [] := va_S.rf
  have hsm : sm ρ [4, 6] ws ws := sm.rf ws
  have htx : tyx tys tys := tyx.rf tys
  have hin4 : ∀ w ∈ u_ws RX4 TX4 8, w ∈ wsX4_readByte := (fun _ h9 => List.mem_cons_of_mem _ (List.mem_append_left _ ((List.mem_append_right _ h9))))
  have hl := lv_entry ([.ref rd, .int a1]) (n := 2) (Nat.le_of_ble_eq_true rfl)
  rw [lg_entry_eq]
  generalize (lg_sl ([.ref rd, .int a1]) ++ List.replicate (2 - (lg_sl ([.ref rd, .int a1])).length) Slot.unset).toArray = ls at hl ⊢
  have hl : lv_has ls 2 [(0, .ref rd), (1, .int a1)] := hl
  obtain ⟨kc_1, cc_2, tc_3, fc_4, kb_5, cb_6, tb_7, fb_8, hp_9, hT_10, er_11, et_12, wr_13, wt_14, ec_15, uc_16, wc_17, hc_18, eb_19, ub_20, wb_21, hb_22⟩ := id R0
  have hp_91 := hp_9.1
  have hp_9t := teF_le (f := f9) hp_9.1
  refine lv_aload_n hx hb dX4_readByte_0 rfl (lv_at hl 0 rfl) ?_
  refine va_get (D := D) (ci := 4) (v := .ref tp) (C := RX4) (T := TX4) (N := 8) hx hb hts hin4 hown hK hP krd er_11 rfl 0 (by decide) (hts (.fieldLink RX4 12 "HoneyHouse$RuleReader" "tape" "LHoneyHouse$Tape;") (List.mem_of_getElem? (i := 1) rfl)) (fun _ h9 => h9) rfl dX4_readByte_1 ?_
  refine lv_iload_n hx hb dX4_readByte_4 rfl (lv_at hl 1 rfl) ?_
  refine vp_callSi (W.runV (As := [.int a1]) (rest := []) ⟨hx, hb, hml, hown, hts⟩ (s_isByte l D ws tys f9 tp ktp tl ts bb kb_5 cb_6 tb_7 fb_8 a1 ho1 ho2 htl hb_22 hng hp_9 et_12 eb_19 ub_20) (cwV 1 hts gX4_readByte_X6_isByte rfl rfl rfl (by decide +kernel) ⟨Nat.le_of_ble_eq_true rfl, Nat.le_of_ble_eq_true rfl⟩) ⟨fun a U g mk q => ⟨q.1, q.2.1, va_K.moved (u := U) (U := U.calling g mk a) (Vm.Alike.refl U.vm) q.2.2⟩, va_recv hK hP (ci := 6) (q0 := ktp) rfl et_12, fun U hU hW => ⟨rfl, by rw [hU]; exact hP, va_K.moved hW.alike hK⟩⟩ rfl rfl hl.1 rfl (lv_room (Nat.le_of_ble_eq_true rfl)) dX4_readByte_5 ⟨Nat.le_of_ble_eq_true rfl, Nat.le_of_ble_eq_true rfl⟩) (fun r_23 k_24 => ?_)
  rcases k_24 with ⟨rfl, ib_25⟩ | ⟨rfl, ib_25⟩
  · refine lv_if_ne (tgt := 16) hx hb dX4_readByte_8 (by decide) (fun c_26 => absurd (by decide) c_26) (fun c_26 => ?_)
    refine lv_aload_n hx hb dX4_readByte_11 rfl (lv_at hl 0 rfl) ?_
    have hFc := free_all hD hS hA
    refine va_calli (va_runV (As := []) (rest := []) ⟨hx, hb, hml, hown, hts⟩ (r_failHere l D ρ ws tys adK adV fo f9 rd krd tp ktp cd bb tl ts T nk fr fk fp vl  s.heap.size htl hng (⟨kc_1, cc_2, tc_3, fc_4, kb_5, cb_6, tb_7, fb_8, hp_9, hT_10, er_11, et_12, wr_13, wt_14, ec_15, uc_16, wc_17, hc_18, eb_19, ub_20, wb_21, hb_22⟩ : RSX ρ ws tys f9 rd krd tp ktp cd bb tl ts T nk fr fk fp vl) ) (cwV 0 hts gX4_readByte_X4_failHere rfl rfl rfl (by decide +kernel) ⟨Nat.le_of_ble_eq_true rfl, Nat.le_of_ble_eq_true rfl⟩) ⟨fun a U g mk q => by obtain ⟨q0, q1, qP, qK, qD, qS⟩ := q; exact ⟨q0, q1, qP, va_K.moved (u := U) (U := U.calling g mk a) (Vm.Alike.refl U.vm) qK, qD, SZ.same rfl rfl qS⟩, va_recv hK hP (ci := 4) (q0 := krd) rfl er_11, fun U hU hW => ⟨rfl, by rw [hU], by rw [hU]; exact hP, va_K.moved hW.alike hK, hD.weaken (fun _ _ _ _ => trivial), hsz9.go hS hW hU hFc⟩⟩ rfl rfl hl.1 rfl (lv_room (Nat.le_of_ble_eq_true rfl)) dX4_readByte_12 ⟨Nat.le_of_ble_eq_true rfl, Nat.le_of_ble_eq_true rfl⟩) hS (fun q _ h => hFc q h) hFc (fun r_27 u t H1 locs ht hvm w_28 hB hz1 hk1 hS => ?_)
    subst w_28
    obtain ⟨ws_29, ty_30, hm_31, ht_33, hP1, hK1, hD1, hx_32⟩ := hB
    rw [ht] at hP1
    have hK := va_K.moved hvm.symm hK1
    have hD := hD1.weaken (fun _ _ _ h => hFc _ h)
    generalize H1 = H at hP1 hS ⊢
    have hP := hP1
    obtain ⟨g_35, e_34, h_36⟩ := hm_31.obj er_11
    obtain ⟨z_37, z_38, z_39, z_40, z_41, z_42, rfl⟩ := smX4 h_36
    obtain ⟨g_44, e_43, h_45⟩ := hm_31.obj et_12
    obtain ⟨z_46, z_47, z_48, z_49, rfl⟩ := smX6 h_45
    obtain ⟨f_51, e_50⟩ := hm_31.arrI ec_15
    have u_52 := ht_33 _ _ uc_16
    have e_53 := hm_31.keep (by rw [wb_21]; omega) eb_19
    have u_54 := ht_33 _ _ ub_20
    have hsm := hsm.tr (hm_31.mono (by decide))
    have htx := htx.tr ht_33
    obtain ⟨rfl, hR_55⟩ := hx_32
    obtain ⟨kc_56, cc_57, tc_58, fc_59, kb_60, cb_61, tb_62, fb_63, hp_64, hT_65, er_66, et_67, wr_68, wt_69, ec_70, uc_71, wc_72, hc_73, eb_74, ub_75, wb_76, hb_77⟩ := id hR_55
    have hp_641 := hp_64.1
    have hp_64t := teF_le (f := f9) hp_64.1
    exact W.zret (v := 0) hx hb hr rfl (fun t ht hW => ⟨⟨0, 0, rfl, rfl, ws_29, ty_30, hsm, htx, by rw [ht]; exact hP, va_K.moved hW.alike hK, hD, Or.inl ⟨rfl, ib_25, (⟨kc_56, cc_57, tc_58, fc_59, kb_60, cb_61, tb_62, fb_63, hp_64, hT_65, er_66, et_67, wr_68, wt_69, ec_70, uc_71, wc_72, hc_73, eb_74, ub_75, wb_76, hb_77⟩ : RSX ρ ws_29 ty_30 f9 rd krd tp ktp cd bb tl ts T nk fr 1 (nI ts) vl)⟩⟩, hS.F ht⟩) hS.2.2 dX4_readByte_15
  refine lv_if_ne (tgt := 16) hx hb dX4_readByte_8 (by decide) (fun c_78 => ?_) (fun c_78 => absurd c_78 (by decide))
  refine lv_aload_n hx hb dX4_readByte_16 rfl (lv_at hl 0 rfl) ?_
  refine va_get (D := D) (ci := 4) (v := .ref tp) (C := RX4) (T := TX4) (N := 8) hx hb hts hin4 hown hK hP krd er_11 rfl 0 (by decide) (hts (.fieldLink RX4 12 "HoneyHouse$RuleReader" "tape" "LHoneyHouse$Tape;") (List.mem_of_getElem? (i := 1) rfl)) (fun _ h9 => h9) rfl dX4_readByte_17 ?_
  have hFc := free_all hD hS hA
  refine va_callv (va_runV (As := []) (rest := []) ⟨hx, hb, hml, hown, hts⟩ (a_advance l D (rz [ktp]) ws tys f9 tp ktp tl (teF f9 tl ts) (nI (kdF f9 tl ts)) (nI ts) bb kb_5 cb_6 tb_7 fb_8 s.heap.size htl hb_22 hng (by omega) et_12 eb_19 ub_20 (rz_o1 (pl_ne eb_19 et_12 (by intro h9; simp at h9))) (rz_in (by simp))) (cwV 0 hts gX4_readByte_X6_advance rfl rfl rfl (by decide +kernel) ⟨Nat.le_of_ble_eq_true rfl, Nat.le_of_ble_eq_true rfl⟩) ⟨fun a U g mk q => by obtain ⟨q0, q1, qP, qK, qD⟩ := q; exact ⟨q0, q1, qP, va_K.moved (u := U) (U := U.calling g mk a) (Vm.Alike.refl U.vm) qK, qD⟩, va_recv hK hP (ci := 6) (q0 := ktp) rfl et_12, fun U hU hW => ⟨rfl, by rw [hU], by rw [hU]; exact hP, va_K.moved hW.alike hK, hD.weaken (fun _ _ _ _ => trivial)⟩⟩ rfl rfl hl.1 rfl (lv_room (Nat.le_of_ble_eq_true rfl)) dX4_readByte_20 ⟨Nat.le_of_ble_eq_true rfl, Nat.le_of_ble_eq_true rfl⟩) hS (fun q _ h => hFc q h) hFc (fun u t H1 locs ht hvm w_80 hB hz1 hk1 hS => ?_)
  obtain ⟨ws_81, ty_82, hm_83, ht_85, hP1, hK1, hD1, hx_84⟩ := hB
  rw [ht] at hP1
  have hK := va_K.moved hvm.symm hK1
  have hD := hD1.weaken (fun _ _ _ h => hFc _ h)
  generalize H1 = H at hP1 hS ⊢
  have hP := hP1
  have e_86 := hm_83.keep (rz_o1 (pl_ne er_11 et_12 (by intro h9; simp at h9))) er_11
  have e_87 := hm_83.keep (rz_o1 (pl_ne ec_15 et_12 (by intro h9; simp at h9))) ec_15
  have e_88 := hm_83.keep (rz_o1 (pl_ne eb_19 et_12 (by intro h9; simp at h9))) eb_19
  have u_89 := ht_85 _ _ uc_16
  have u_90 := ht_85 _ _ ub_20
  have hm_91 : sm ρ [6] ws ws_81 := hm_83.up (fun k _ h => rz_u1 wt_14 k h)
  have hsm := hsm.tr (hm_91.mono (by decide))
  have htx := htx.tr ht_85
  have e_92 : ws_81[ktp]? = some (tp, .inr (6, [.int (nI tl), .int (nI (kdF f9 tl (nxF f9 tl ts))), .int (nI (nxF f9 tl ts)), .int (nI (teF f9 tl (nxF f9 tl ts))), .ref bb])) := hx_84; have hq_93 : pcB f9 tl (nxF f9 tl ts) := nxF_pc (f := f9) hp_9.1; have hq_931 := hq_93.1; have hq_93t := teF_le (f := f9) hq_93.1; have hg_94 := nx_gain (f := f9) hp_9.1
  refine lv_iconst (v := 1) hx hb dX4_readByte_23 (by decide) ?_
  exact W.zret (v := 1) hx hb hr rfl (fun t ht hW => ⟨⟨1, 1, rfl, rfl, ws_81, ty_82, hsm, htx, by rw [ht]; exact hP, va_K.moved hW.alike hK, hD, Or.inr ⟨rfl, ib_25, (⟨kc_1, cc_2, tc_3, fc_4, kb_5, cb_6, tb_7, fb_8, hq_93, hT_10, e_86, e_92, wr_13, wt_14, e_87, u_89, wc_17, hc_18, e_88, u_90, wb_21, hb_22⟩ : RSX ρ ws_81 ty_82 f9 rd krd tp ktp cd bb tl (nxF f9 tl ts) T nk fr fk fp vl)⟩⟩, hS.F ht⟩) hS.2.2 dX4_readByte_24
set_option maxHeartbeats 4000000 in
set_option maxRecDepth 100000 in
theorem r_readWord (l : Launch) (D : va_G) (ρ : Nat → Nat) (ws : va_W) (tys : List (ClassId × FieldType)) (adK adV : Nat → Nat) (fo : Option Nat) (f9 : Nat → Int32) (rd krd tp ktp cd bb tl ts : Nat) (T : List Tk) (nk : Int64) (fr fk fp vl : Int32) (i9 : Nat) (sz : Nat) (htl : tl ≤ 400) (hng : ∀ i : Nat, i < tl → ¬ f9 i = -1) (R0 : RSX ρ ws tys f9 rd krd tp ktp cd bb tl ts T nk fr fk fp vl) (hi9 : i9 < 11) : Met l yX4_readWord wsX4_readWord ({ frames := 5, cells := 0, slots := 0, locals := 107 }) (va_Pc [.ref rd, .ref (adK i9)] (fun U => U.heap.size = sz ∧ va_P D vwCl ws U.heap ∧ va_K D vwCl tys U ∧ va_D (fun _ => True) ws ∧ SZ adK adV fo (va_A ws sz) U U.heap)) (va_Qi (fun (r : Int32) (s9 : Int32) => r = s9) (fun (s9 : Int32) (t : State) => ∃ (ws' : va_W) (tys' : List (ClassId × FieldType)), sm ρ [4, 6] ws ws' ∧ tyx tys tys' ∧ va_P D vwCl ws' t.heap ∧ va_K D vwCl tys' t ∧ va_D (va_A ws sz) ws' ∧ ((s9 = 0 ∧ ¬ wdE f9 tl ts = cwL.getD i9 0 ∧ RSX ρ ws' tys' f9 rd krd tp ktp cd bb tl ts T nk fr 1 (nI ts) vl) ∨ (s9 = 1 ∧ wdE f9 tl ts = cwL.getD i9 0 ∧ RSX ρ ws' tys' f9 rd krd tp ktp cd bb tl (nxF f9 tl ts) T nk fr fk fp vl))) (va_A ws sz)) 0 0 (va_A ws sz) := by
  refine Met.ofW (cc := cX4_readWord) (maxL := 2) (ret := (some .boolean)) (by decide) rfl ?_
  intro p e s m args below meth c s₁ B hml hv
  obtain ⟨rfl, hsz, hP, hK, hD0, hsz9⟩ := hv
  have hx := B.exec
  have hb := B.bytes
  have hr := B.returns
  have hts := atoms_spec (ws := wsX4_readWord) B.pre
  have hown : s.vm.findClass RX4 = some m.cls := findClass_of_methodNamed B.named
  have hlocks := B.notSynchronized
  subst hsz
  have hD := hD0.self (sz := s.heap.size)
  generalize hAe : va_A ws s.heap.size = A at hD hsz9 ⊢
  have hA : ∀ q : Nat, s.heap.size ≤ q → A q := fun q h => by rw [← hAe]; exact Or.inr h
  have hS : va_S A s.heap s.heap [] := va_S.rf
  have hsm : sm ρ [4, 6] ws ws := sm.rf ws
  have htx : tyx tys tys := tyx.rf tys
  have hin4 : ∀ w ∈ u_ws RX4 TX4 8, w ∈ wsX4_readWord := (fun _ h9 => List.mem_cons_of_mem _ (List.mem_append_left _ ((List.mem_append_right _ h9))))
  have hl := lv_entry ([.ref rd, .ref (adK i9)]) (n := 2) (Nat.le_of_ble_eq_true rfl)
  rw [lg_entry_eq]
  generalize (lg_sl ([.ref rd, .ref (adK i9)]) ++ List.replicate (2 - (lg_sl ([.ref rd, .ref (adK i9)])).length) Slot.unset).toArray = ls at hl ⊢
  have hl : lv_has ls 2 [(0, .ref rd), (1, .ref (adK i9))] := hl
  obtain ⟨kc_1, cc_2, tc_3, fc_4, kb_5, cb_6, tb_7, fb_8, hp_9, hT_10, er_11, et_12, wr_13, wt_14, ec_15, uc_16, wc_17, hc_18, eb_19, ub_20, wb_21, hb_22⟩ := id R0
  have hp_91 := hp_9.1
  have hp_9t := teF_le (f := f9) hp_9.1
  refine lv_aload_n hx hb dX4_readWord_0 rfl (lv_at hl 0 rfl) ?_
  refine va_get (D := D) (ci := 4) (v := .ref tp) (C := RX4) (T := TX4) (N := 8) hx hb hts hin4 hown hK hP krd er_11 rfl 0 (by decide) (hts (.fieldLink RX4 12 "HoneyHouse$RuleReader" "tape" "LHoneyHouse$Tape;") (List.mem_of_getElem? (i := 1) rfl)) (fun _ h9 => h9) rfl dX4_readWord_1 ?_
  refine lv_aload_n hx hb dX4_readWord_4 rfl (lv_at hl 1 rfl) ?_
  have hFc := free_all hD hS hA
  refine va_calli (va_runV (As := [.ref (adK i9)]) (rest := []) ⟨hx, hb, hml, hown, hts⟩ (a_isWord l D (rz []) ws tys adK adV fo i9 f9 tp ktp tl ts bb kb_5 cb_6 tb_7 fb_8 s.heap.size hi9 htl hb_22 hng hp_9 et_12 eb_19 ub_20 rz_o0) (cwV 1 hts gX4_readWord_X6_isWord rfl rfl rfl (by decide +kernel) ⟨Nat.le_of_ble_eq_true rfl, Nat.le_of_ble_eq_true rfl⟩) ⟨fun a U g mk q => by obtain ⟨q0, q1, qP, qK, qD, qS⟩ := q; exact ⟨q0, q1, qP, va_K.moved (u := U) (U := U.calling g mk a) (Vm.Alike.refl U.vm) qK, qD, SZ.same rfl rfl qS⟩, va_recv hK hP (ci := 6) (q0 := ktp) rfl et_12, fun U hU hW => ⟨rfl, by rw [hU], by rw [hU]; exact hP, va_K.moved hW.alike hK, hD.weaken (fun _ _ _ _ => trivial), hsz9.go hS hW hU hFc⟩⟩ rfl rfl hl.1 rfl (lv_room (Nat.le_of_ble_eq_true rfl)) dX4_readWord_5 ⟨Nat.le_of_ble_eq_true rfl, Nat.le_of_ble_eq_true rfl⟩) hS (fun q _ h => hFc q h) hFc (fun r_23 u t H1 locs ht hvm w_24 hB hz1 hk1 hS => ?_)
  obtain ⟨ws_25, ty_26, hm_27, ht_29, hP1, hK1, hD1, hx_28⟩ := hB
  rw [ht] at hP1
  have hK := va_K.moved hvm.symm hK1
  have hD := hD1.weaken (fun _ _ _ h => hFc _ h)
  generalize H1 = H at hP1 hS ⊢
  have hP := hP1
  have e_30 := hm_27.keep rz_o0 er_11
  have e_31 := hm_27.keep rz_o0 et_12
  have e_32 := hm_27.keep rz_o0 ec_15
  have e_33 := hm_27.keep rz_o0 eb_19
  have u_34 := ht_29 _ _ uc_16
  have u_35 := ht_29 _ _ ub_20
  have hm_36 : sm ρ [] ws ws_25 := hm_27.up (fun k _ h => rz_u0  k h)
  have hsm := hsm.tr (hm_36.mono (by decide))
  have htx := htx.tr ht_29
  rcases w_24 with ⟨rfl, iw_37⟩ | ⟨rfl, iw_37⟩
  · have iw_37 : ¬ wdE f9 tl ts = cwL.getD i9 0 := iw_37
    refine lv_if_ne (tgt := 16) hx hb dX4_readWord_8 (by decide) (fun c_38 => absurd (by decide) c_38) (fun c_38 => ?_)
    refine lv_aload_n hx hb dX4_readWord_11 rfl (lv_at hl 0 rfl) ?_
    have hFc := free_all hD hS hA
    refine va_calli (va_runV (As := []) (rest := []) ⟨hx, hb, hml, hown, hts⟩ (r_failHere l D ρ ws_25 ty_26 adK adV fo f9 rd krd tp ktp cd bb tl ts T nk fr fk fp vl  H.size htl hng (⟨kc_1, cc_2, tc_3, fc_4, kb_5, cb_6, tb_7, fb_8, hp_9, hT_10, e_30, e_31, wr_13, wt_14, e_32, u_34, wc_17, hc_18, e_33, u_35, wb_21, hb_22⟩ : RSX ρ ws_25 ty_26 f9 rd krd tp ktp cd bb tl ts T nk fr fk fp vl) ) (cwV 0 hts gX4_readWord_X4_failHere rfl rfl rfl (by decide +kernel) ⟨Nat.le_of_ble_eq_true rfl, Nat.le_of_ble_eq_true rfl⟩) ⟨fun a U g mk q => by obtain ⟨q0, q1, qP, qK, qD, qS⟩ := q; exact ⟨q0, q1, qP, va_K.moved (u := U) (U := U.calling g mk a) (Vm.Alike.refl U.vm) qK, qD, SZ.same rfl rfl qS⟩, va_recv hK hP (ci := 4) (q0 := krd) rfl e_30, fun U hU hW => ⟨rfl, by rw [hU], by rw [hU]; exact hP, va_K.moved hW.alike hK, hD.weaken (fun _ _ _ _ => trivial), hsz9.go hS hW hU hFc⟩⟩ rfl rfl hl.1 rfl (lv_room (Nat.le_of_ble_eq_true rfl)) dX4_readWord_12 ⟨Nat.le_of_ble_eq_true rfl, Nat.le_of_ble_eq_true rfl⟩) hS (fun q _ h => hFc q h) hFc (fun r_39 u t H1 locs ht hvm w_40 hB hz1 hk1 hS => ?_)
    subst w_40
    obtain ⟨ws_41, ty_42, hm_43, ht_45, hP1, hK1, hD1, hx_44⟩ := hB
    rw [ht] at hP1
    have hK := va_K.moved hvm.symm hK1
    have hD := hD1.weaken (fun _ _ _ h => hFc _ h)
    generalize H1 = H at hP1 hS ⊢
    have hP := hP1
    obtain ⟨g_47, e_46, h_48⟩ := hm_43.obj e_30
    obtain ⟨z_49, z_50, z_51, z_52, z_53, z_54, rfl⟩ := smX4 h_48
    obtain ⟨g_56, e_55, h_57⟩ := hm_43.obj e_31
    obtain ⟨z_58, z_59, z_60, z_61, rfl⟩ := smX6 h_57
    obtain ⟨f_63, e_62⟩ := hm_43.arrI e_32
    have u_64 := ht_45 _ _ u_34
    have e_65 := hm_43.keep (by rw [wb_21]; omega) e_33
    have u_66 := ht_45 _ _ u_35
    have hsm := hsm.tr (hm_43.mono (by decide))
    have htx := htx.tr ht_45
    obtain ⟨rfl, hR_67⟩ := hx_44
    obtain ⟨kc_68, cc_69, tc_70, fc_71, kb_72, cb_73, tb_74, fb_75, hp_76, hT_77, er_78, et_79, wr_80, wt_81, ec_82, uc_83, wc_84, hc_85, eb_86, ub_87, wb_88, hb_89⟩ := id hR_67
    have hp_761 := hp_76.1
    have hp_76t := teF_le (f := f9) hp_76.1
    exact W.zret (v := 0) hx hb hr rfl (fun t ht hW => ⟨⟨0, 0, rfl, rfl, ws_41, ty_42, hsm, htx, by rw [ht]; exact hP, va_K.moved hW.alike hK, hD, Or.inl ⟨rfl, iw_37, (⟨kc_68, cc_69, tc_70, fc_71, kb_72, cb_73, tb_74, fb_75, hp_76, hT_77, er_78, et_79, wr_80, wt_81, ec_82, uc_83, wc_84, hc_85, eb_86, ub_87, wb_88, hb_89⟩ : RSX ρ ws_41 ty_42 f9 rd krd tp ktp cd bb tl ts T nk fr 1 (nI ts) vl)⟩⟩, hS.F ht⟩) hS.2.2 dX4_readWord_15
  have iw_37 : wdE f9 tl ts = cwL.getD i9 0 := iw_37
  refine lv_if_ne (tgt := 16) hx hb dX4_readWord_8 (by decide) (fun c_90 => ?_) (fun c_90 => absurd c_90 (by decide))
  refine lv_aload_n hx hb dX4_readWord_16 rfl (lv_at hl 0 rfl) ?_
  refine va_get (D := D) (ci := 4) (v := .ref tp) (C := RX4) (T := TX4) (N := 8) hx hb hts hin4 hown hK hP krd e_30 rfl 0 (by decide) (hts (.fieldLink RX4 12 "HoneyHouse$RuleReader" "tape" "LHoneyHouse$Tape;") (List.mem_of_getElem? (i := 1) rfl)) (fun _ h9 => h9) rfl dX4_readWord_17 ?_
  have hFc := free_all hD hS hA
  refine va_callv (va_runV (As := []) (rest := []) ⟨hx, hb, hml, hown, hts⟩ (a_advance l D (rz [ktp]) ws_25 ty_26 f9 tp ktp tl (teF f9 tl ts) (nI (kdF f9 tl ts)) (nI ts) bb kb_5 cb_6 tb_7 fb_8 H.size htl hb_22 hng (by omega) e_31 e_33 u_35 (rz_o1 (pl_ne e_33 e_31 (by intro h9; simp at h9))) (rz_in (by simp))) (cwV 0 hts gX4_readWord_X6_advance rfl rfl rfl (by decide +kernel) ⟨Nat.le_of_ble_eq_true rfl, Nat.le_of_ble_eq_true rfl⟩) ⟨fun a U g mk q => by obtain ⟨q0, q1, qP, qK, qD⟩ := q; exact ⟨q0, q1, qP, va_K.moved (u := U) (U := U.calling g mk a) (Vm.Alike.refl U.vm) qK, qD⟩, va_recv hK hP (ci := 6) (q0 := ktp) rfl e_31, fun U hU hW => ⟨rfl, by rw [hU], by rw [hU]; exact hP, va_K.moved hW.alike hK, hD.weaken (fun _ _ _ _ => trivial)⟩⟩ rfl rfl hl.1 rfl (lv_room (Nat.le_of_ble_eq_true rfl)) dX4_readWord_20 ⟨Nat.le_of_ble_eq_true rfl, Nat.le_of_ble_eq_true rfl⟩) hS (fun q _ h => hFc q h) hFc (fun u t H1 locs ht hvm w_92 hB hz1 hk1 hS => ?_)
  obtain ⟨ws_93, ty_94, hm_95, ht_97, hP1, hK1, hD1, hx_96⟩ := hB
  rw [ht] at hP1
  have hK := va_K.moved hvm.symm hK1
  have hD := hD1.weaken (fun _ _ _ h => hFc _ h)
  generalize H1 = H at hP1 hS ⊢
  have hP := hP1
  have e_98 := hm_95.keep (rz_o1 (pl_ne e_30 e_31 (by intro h9; simp at h9))) e_30
  have e_99 := hm_95.keep (rz_o1 (pl_ne e_32 e_31 (by intro h9; simp at h9))) e_32
  have e_100 := hm_95.keep (rz_o1 (pl_ne e_33 e_31 (by intro h9; simp at h9))) e_33
  have u_101 := ht_97 _ _ u_34
  have u_102 := ht_97 _ _ u_35
  have hm_103 : sm ρ [6] ws_25 ws_93 := hm_95.up (fun k _ h => rz_u1 wt_14 k h)
  have hsm := hsm.tr (hm_103.mono (by decide))
  have htx := htx.tr ht_97
  have e_104 : ws_93[ktp]? = some (tp, .inr (6, [.int (nI tl), .int (nI (kdF f9 tl (nxF f9 tl ts))), .int (nI (nxF f9 tl ts)), .int (nI (teF f9 tl (nxF f9 tl ts))), .ref bb])) := hx_96; have hq_105 : pcB f9 tl (nxF f9 tl ts) := nxF_pc (f := f9) hp_9.1; have hq_1051 := hq_105.1; have hq_105t := teF_le (f := f9) hq_105.1; have hg_106 := nx_gain (f := f9) hp_9.1
  refine lv_iconst (v := 1) hx hb dX4_readWord_23 (by decide) ?_
  exact W.zret (v := 1) hx hb hr rfl (fun t ht hW => ⟨⟨1, 1, rfl, rfl, ws_93, ty_94, hsm, htx, by rw [ht]; exact hP, va_K.moved hW.alike hK, hD, Or.inr ⟨rfl, iw_37, (⟨kc_1, cc_2, tc_3, fc_4, kb_5, cb_6, tb_7, fb_8, hq_105, hT_10, e_98, e_104, wr_13, wt_14, e_99, u_101, wc_17, hc_18, e_100, u_102, wb_21, hb_22⟩ : RSX ρ ws_93 ty_94 f9 rd krd tp ktp cd bb tl (nxF f9 tl ts) T nk fr fk fp vl)⟩⟩, hS.F ht⟩) hS.2.2 dX4_readWord_24
set_option maxHeartbeats 4000000 in
set_option maxRecDepth 100000 in
theorem r_readNumber (l : Launch) (D : va_G) (ρ : Nat → Nat) (ws : va_W) (tys : List (ClassId × FieldType)) (adK adV : Nat → Nat) (fo : Option Nat) (f9 : Nat → Int32) (rd krd tp ktp cd bb tl ts : Nat) (T : List Tk) (nk : Int64) (fr fk fp vl : Int32) (mo : Nat) (sz : Nat) (htl : tl ≤ 400) (hng : ∀ i : Nat, i < tl → ¬ f9 i = -1) (R0 : RSX ρ ws tys f9 rd krd tp ktp cd bb tl ts T nk fr fk fp vl) (hmo : mo ≤ 30000) : Met l yX4_readNumber wsX4_readNumber ({ frames := 2, cells := 0, slots := 0, locals := 43 }) (va_Pc [.ref rd, .int (nI mo)] (fun U => U.heap.size = sz ∧ va_P D vwCl ws U.heap ∧ va_K D vwCl tys U ∧ va_D (fun _ => True) ws ∧ SZ adK adV fo (va_A ws sz) U U.heap)) (va_Qi (fun (r : Int32) (s9 : Int32) => r = s9) (fun (s9 : Int32) (t : State) => ∃ (ws' : va_W) (tys' : List (ClassId × FieldType)), sm ρ [4, 6] ws ws' ∧ tyx tys tys' ∧ va_P D vwCl ws' t.heap ∧ va_K D vwCl tys' t ∧ va_D (va_A ws sz) ws' ∧ (∃ k p v : Nat, numR f9 tl mo ts k p v ∧ ((s9 = 0 ∧ ¬ k = 0 ∧ k ≤ 2 ∧ ∃ vl9 : Int32, RSX ρ ws' tys' f9 rd krd tp ktp cd bb tl ts T nk fr (nI k) (nI p) vl9) ∨ (s9 = 1 ∧ k = 0 ∧ RSX ρ ws' tys' f9 rd krd tp ktp cd bb tl p T nk fr fk fp (nI v))))) (va_A ws sz)) 0 0 (va_A ws sz) := by
  refine Met.ofW (cc := cX4_readNumber) (maxL := 2) (ret := (some .boolean)) (by decide) rfl ?_
  intro p e s m args below meth c s₁ B hml hv
  obtain ⟨rfl, hsz, hP, hK, hD0, hsz9⟩ := hv
  have hx := B.exec
  have hb := B.bytes
  have hr := B.returns
  have hts := atoms_spec (ws := wsX4_readNumber) B.pre
  have hown : s.vm.findClass RX4 = some m.cls := findClass_of_methodNamed B.named
  have hlocks := B.notSynchronized
  subst hsz
  have hD := hD0.self (sz := s.heap.size)
  generalize hAe : va_A ws s.heap.size = A at hD hsz9 ⊢
  have hA : ∀ q : Nat, s.heap.size ≤ q → A q := fun q h => by rw [← hAe]; exact Or.inr h
  have hS : va_S A s.heap s.heap [] := va_S.rf
  have hsm : sm ρ [4, 6] ws ws := sm.rf ws
  have htx : tyx tys tys := tyx.rf tys
  have hin4 : ∀ w ∈ u_ws RX4 TX4 8, w ∈ wsX4_readNumber := (fun _ h9 => List.mem_cons_of_mem _ (List.mem_append_left _ ((List.mem_append_right _ h9))))
  have hin6 : ∀ w ∈ u_ws RX6 TX6 5, w ∈ wsX4_readNumber := (fun _ h9 => List.mem_cons_of_mem _ ((List.mem_append_right _ h9)))
  have hl := lv_entry ([.ref rd, .int (nI mo)]) (n := 2) (Nat.le_of_ble_eq_true rfl)
  rw [lg_entry_eq]
  generalize (lg_sl ([.ref rd, .int (nI mo)]) ++ List.replicate (2 - (lg_sl ([.ref rd, .int (nI mo)])).length) Slot.unset).toArray = ls at hl ⊢
  have hl : lv_has ls 2 [(0, .ref rd), (1, .int (nI mo))] := hl
  obtain ⟨kc_1, cc_2, tc_3, fc_4, kb_5, cb_6, tb_7, fb_8, hp_9, hT_10, er_11, et_12, wr_13, wt_14, ec_15, uc_16, wc_17, hc_18, eb_19, ub_20, wb_21, hb_22⟩ := id R0
  have hp_91 := hp_9.1
  have hp_9t := teF_le (f := f9) hp_9.1
  have hkl := kdF_le (f := f9) (n := tl) (b := ts)
  have htl9 := teF_le (f := f9) (n := tl) (b := ts) hp_91
  refine lv_aload_n hx hb dX4_readNumber_0 rfl (lv_at hl 0 rfl) ?_
  refine va_get (D := D) (ci := 4) (v := .ref tp) (C := RX4) (T := TX4) (N := 8) hx hb hts hin4 hown hK hP krd er_11 rfl 0 (by decide) (hts (.fieldLink RX4 12 "HoneyHouse$RuleReader" "tape" "LHoneyHouse$Tape;") (List.mem_of_getElem? (i := 1) rfl)) (fun _ h9 => h9) rfl dX4_readNumber_1 ?_
  refine va_get (D := D) (ci := 6) (v := .int (nI (kdF f9 tl ts))) (C := RX6) (T := TX6) (N := 5) hx hb hts hin6 hown hK hP ktp et_12 rfl 1 (by decide) (hts (.fieldLink RX4 61 "HoneyHouse$Tape" "kind" "I") (List.mem_of_getElem? (i := 2) rfl)) (fun _ h9 => h9) rfl dX4_readNumber_4 ?_
  refine lv_iconst (v := 2) hx hb dX4_readNumber_7 (by decide) ?_
  refine lv_icmp_eq (tgt := 16) hx hb dX4_readNumber_8 (by decide) (fun c_23 => ?_) (fun c_23 => ?_)
  · have d_24 := n_eq (a := kdF f9 tl ts) (b := 2) (by omega) (by omega) c_23
    refine lv_aload_n hx hb dX4_readNumber_16 rfl (lv_at hl 0 rfl) ?_
    refine va_get (D := D) (ci := 4) (v := .ref tp) (C := RX4) (T := TX4) (N := 8) hx hb hts hin4 hown hK hP krd er_11 rfl 0 (by decide) (hts (.fieldLink RX4 12 "HoneyHouse$RuleReader" "tape" "LHoneyHouse$Tape;") (List.mem_of_getElem? (i := 1) rfl)) (fun _ h9 => h9) rfl dX4_readNumber_17 ?_
    refine va_get (D := D) (ci := 6) (v := .int (nI (teF f9 tl ts))) (C := RX6) (T := TX6) (N := 5) hx hb hts hin6 hown hK hP ktp et_12 rfl 3 (by decide) (hts (.fieldLink RX4 83 "HoneyHouse$Tape" "end" "I") (List.mem_of_getElem? (i := 3) rfl)) (fun _ h9 => h9) rfl dX4_readNumber_20 ?_
    refine lv_aload_n hx hb dX4_readNumber_23 rfl (lv_at hl 0 rfl) ?_
    refine va_get (D := D) (ci := 4) (v := .ref tp) (C := RX4) (T := TX4) (N := 8) hx hb hts hin4 hown hK hP krd er_11 rfl 0 (by decide) (hts (.fieldLink RX4 12 "HoneyHouse$RuleReader" "tape" "LHoneyHouse$Tape;") (List.mem_of_getElem? (i := 1) rfl)) (fun _ h9 => h9) rfl dX4_readNumber_24 ?_
    refine va_get (D := D) (ci := 6) (v := .int (nI ts)) (C := RX6) (T := TX6) (N := 5) hx hb hts hin6 hown hK hP ktp et_12 rfl 2 (by decide) (hts (.fieldLink RX4 73 "HoneyHouse$Tape" "start" "I") (List.mem_of_getElem? (i := 4) rfl)) (fun _ h9 => h9) rfl dX4_readNumber_27 ?_
    refine lv_isub hx hb dX4_readNumber_30 ?_
    refine tp_i (y := nI ((teF f9 tl ts) - ts)) (pk_sub (a := teF f9 tl ts) (b := ts) (by omega)) ?_
    refine lv_iconst (v := 5) hx hb dX4_readNumber_31 (by decide) ?_
    refine lv_icmp_le (tgt := 50) hx hb dX4_readNumber_32 (by decide) (fun c_25 => ?_) (fun c_25 => ?_)
    · have d_26 := n_le (a := (teF f9 tl ts) - ts) (b := 5) (by omega) (by omega) c_25
      have hv5 := vl_lt5 d_24 (by omega)
      refine lv_aload_n hx hb dX4_readNumber_50 rfl (lv_at hl 0 rfl) ?_
      refine lv_aload_n hx hb dX4_readNumber_51 rfl (lv_at hl 0 rfl) ?_
      refine va_get (D := D) (ci := 4) (v := .ref tp) (C := RX4) (T := TX4) (N := 8) hx hb hts hin4 hown hK hP krd er_11 rfl 0 (by decide) (hts (.fieldLink RX4 12 "HoneyHouse$RuleReader" "tape" "LHoneyHouse$Tape;") (List.mem_of_getElem? (i := 1) rfl)) (fun _ h9 => h9) rfl dX4_readNumber_52 ?_
      have hFc := free_all hD hS hA
      refine va_calli (va_runV (As := []) (rest := [.ref rd]) ⟨hx, hb, hml, hown, hts⟩ (a_numberValue l D (rz []) ws tys f9 tp ktp tl ts bb kb_5 cb_6 tb_7 fb_8 s.heap.size htl hb_22 hng hp_9 et_12 eb_19 ub_20 rz_o0 d_24) (cwV 0 hts gX4_readNumber_X6_numberValue rfl rfl rfl (by decide +kernel) ⟨Nat.le_of_ble_eq_true rfl, Nat.le_of_ble_eq_true rfl⟩) ⟨fun a U g mk q => by obtain ⟨q0, q1, qP, qK, qD⟩ := q; exact ⟨q0, q1, qP, va_K.moved (u := U) (U := U.calling g mk a) (Vm.Alike.refl U.vm) qK, qD⟩, va_recv hK hP (ci := 6) (q0 := ktp) rfl et_12, fun U hU hW => ⟨rfl, by rw [hU], by rw [hU]; exact hP, va_K.moved hW.alike hK, hD.weaken (fun _ _ _ _ => trivial)⟩⟩ rfl rfl hl.1 rfl (lv_room (Nat.le_of_ble_eq_true rfl)) dX4_readNumber_55 ⟨Nat.le_of_ble_eq_true rfl, Nat.le_of_ble_eq_true rfl⟩) hS (fun q _ h => hFc q h) hFc (fun r_27 u t H1 locs ht hvm w_28 hB hz1 hk1 hS => ?_)
      obtain ⟨ws_29, ty_30, hm_31, ht_33, hP1, hK1, hD1, hx_32⟩ := hB
      rw [ht] at hP1
      have hK := va_K.moved hvm.symm hK1
      have hD := hD1.weaken (fun _ _ _ h => hFc _ h)
      generalize H1 = H at hP1 hS ⊢
      have hP := hP1
      have e_34 := hm_31.keep rz_o0 er_11
      have e_35 := hm_31.keep rz_o0 et_12
      have e_36 := hm_31.keep rz_o0 ec_15
      have e_37 := hm_31.keep rz_o0 eb_19
      have u_38 := ht_33 _ _ uc_16
      have u_39 := ht_33 _ _ ub_20
      have hm_40 : sm ρ [] ws ws_29 := hm_31.up (fun k _ h => rz_u0  k h)
      have hsm := hsm.tr (hm_40.mono (by decide))
      have htx := htx.tr ht_33
      obtain rfl : r_27 = nI (vlN f9 ts (teF f9 tl ts - ts)) := w_28
      refine va_put (D := D) (ci := 4) (v := .int (nI (vlN f9 ts (teF f9 tl ts - ts)))) (ty := .int) (C := RX4) (T := TX4) (N := 8) hx hb hts hin4 tyX4 tyX4_ok nmX4 hown hK hP hD hS krd e_34 rfl 7 (by decide) (hts (.fieldLink RX4 56 "HoneyHouse$RuleReader" "value" "I") (List.mem_of_getElem? (i := 5) rfl)) (fun _ h9 => h9) rfl (tyX4_ok 7 (by decide)) rfl rfl (Nat.le_of_ble_eq_true rfl) dX4_readNumber_58 (fun H locs hP hD hS => ?_)
      have hP : va_P D vwCl (ws_29.set krd (rd, .inr (4, [.ref tp, .long nk, .int fr, .int fk, .int fp, .ref cd, .int (nI T.length), .int (nI (vlN f9 ts (teF f9 tl ts - ts)))]))) H := hP
      have hD : va_D A (ws_29.set krd (rd, .inr (4, [.ref tp, .long nk, .int fr, .int fk, .int fp, .ref cd, .int (nI T.length), .int (nI (vlN f9 ts (teF f9 tl ts - ts)))]))) := hD
      have hm_42 : sm ρ [4] ws_29 (ws_29.set krd (rd, .inr (4, [.ref tp, .long nk, .int fr, .int fk, .int fp, .ref cd, .int (nI T.length), .int (nI (vlN f9 ts (teF f9 tl ts - ts)))]))) := sm.flds e_34 (smF.c (smV.rf _) (smF.c (smV.rf _) (smF.c (smV.rf _) (smF.c (smV.rf _) (smF.c (smV.rf _) (smF.c (smV.rf _) (smF.c (smV.rf _) (smF.c (smV.i _ _) (rfl))))))))) (List.mem_singleton.mpr rfl) wr_13
      have e_43 : (ws_29.set krd (rd, .inr (4, [.ref tp, .long nk, .int fr, .int fk, .int fp, .ref cd, .int (nI T.length), .int (nI (vlN f9 ts (teF f9 tl ts - ts)))])))[krd]? = some (rd, .inr (4, [.ref tp, .long nk, .int fr, .int fk, .int fp, .ref cd, .int (nI T.length), .int (nI (vlN f9 ts (teF f9 tl ts - ts)))])) := wset_self e_34
      have e_44 := set_n (z := (rd, .inr (4, [.ref tp, .long nk, .int fr, .int fk, .int fp, .ref cd, .int (nI T.length), .int (nI (vlN f9 ts (teF f9 tl ts - ts)))]))) e_35 (pl_ne e_35 e_34 (by intro h9; simp at h9))
      have e_45 := set_n (z := (rd, .inr (4, [.ref tp, .long nk, .int fr, .int fk, .int fp, .ref cd, .int (nI T.length), .int (nI (vlN f9 ts (teF f9 tl ts - ts)))]))) e_36 (pl_ne e_36 e_34 (by intro h9; simp at h9))
      have e_46 := set_n (z := (rd, .inr (4, [.ref tp, .long nk, .int fr, .int fk, .int fp, .ref cd, .int (nI T.length), .int (nI (vlN f9 ts (teF f9 tl ts - ts)))]))) e_37 (pl_ne e_37 e_34 (by intro h9; simp at h9))
      generalize ws_29.set krd (rd, .inr (4, [.ref tp, .long nk, .int fr, .int fk, .int fp, .ref cd, .int (nI T.length), .int (nI (vlN f9 ts (teF f9 tl ts - ts)))])) = ws_41 at hP hD hm_42 e_43 e_44 e_45 e_46
      have hsm := hsm.tr (hm_42.mono (by decide))
      refine lv_aload_n hx hb dX4_readNumber_61 rfl (lv_at hl 0 rfl) ?_
      refine va_get (D := D) (ci := 4) (v := .int (nI (vlN f9 ts (teF f9 tl ts - ts)))) (C := RX4) (T := TX4) (N := 8) hx hb hts hin4 hown hK hP krd e_43 rfl 7 (by decide) (hts (.fieldLink RX4 56 "HoneyHouse$RuleReader" "value" "I") (List.mem_of_getElem? (i := 5) rfl)) (fun _ h9 => h9) rfl dX4_readNumber_62 ?_
      refine lv_iload_n hx hb dX4_readNumber_65 rfl (lv_at hl 1 rfl) ?_
      refine lv_icmp_le (tgt := 82) hx hb dX4_readNumber_66 (by decide) (fun c_47 => ?_) (fun c_47 => ?_)
      · have d_48 := n_le (a := vlN f9 ts (teF f9 tl ts - ts)) (b := mo) (by omega) (by omega) c_47
        refine lv_aload_n hx hb dX4_readNumber_82 rfl (lv_at hl 0 rfl) ?_
        refine va_get (D := D) (ci := 4) (v := .ref tp) (C := RX4) (T := TX4) (N := 8) hx hb hts hin4 hown hK hP krd e_43 rfl 0 (by decide) (hts (.fieldLink RX4 12 "HoneyHouse$RuleReader" "tape" "LHoneyHouse$Tape;") (List.mem_of_getElem? (i := 1) rfl)) (fun _ h9 => h9) rfl dX4_readNumber_83 ?_
        have hFc := free_all hD hS hA
        refine va_callv (va_runV (As := []) (rest := []) ⟨hx, hb, hml, hown, hts⟩ (a_advance l D (rz [ktp]) ws_41 ty_30 f9 tp ktp tl (teF f9 tl ts) (nI (kdF f9 tl ts)) (nI ts) bb kb_5 cb_6 tb_7 fb_8 H.size htl hb_22 hng (by omega) e_44 e_46 u_39 (rz_o1 (pl_ne e_46 e_44 (by intro h9; simp at h9))) (rz_in (by simp))) (cwV 0 hts gX4_readNumber_X6_advance rfl rfl rfl (by decide +kernel) ⟨Nat.le_of_ble_eq_true rfl, Nat.le_of_ble_eq_true rfl⟩) ⟨fun a U g mk q => by obtain ⟨q0, q1, qP, qK, qD⟩ := q; exact ⟨q0, q1, qP, va_K.moved (u := U) (U := U.calling g mk a) (Vm.Alike.refl U.vm) qK, qD⟩, va_recv hK hP (ci := 6) (q0 := ktp) rfl e_44, fun U hU hW => ⟨rfl, by rw [hU], by rw [hU]; exact hP, va_K.moved hW.alike hK, hD.weaken (fun _ _ _ _ => trivial)⟩⟩ rfl rfl hl.1 rfl (lv_room (Nat.le_of_ble_eq_true rfl)) dX4_readNumber_86 ⟨Nat.le_of_ble_eq_true rfl, Nat.le_of_ble_eq_true rfl⟩) hS (fun q _ h => hFc q h) hFc (fun u t H1 locs ht hvm w_50 hB hz1 hk1 hS => ?_)
        obtain ⟨ws_51, ty_52, hm_53, ht_55, hP1, hK1, hD1, hx_54⟩ := hB
        rw [ht] at hP1
        have hK := va_K.moved hvm.symm hK1
        have hD := hD1.weaken (fun _ _ _ h => hFc _ h)
        generalize H1 = H at hP1 hS ⊢
        have hP := hP1
        have e_56 := hm_53.keep (rz_o1 (pl_ne e_43 e_44 (by intro h9; simp at h9))) e_43
        have e_57 := hm_53.keep (rz_o1 (pl_ne e_45 e_44 (by intro h9; simp at h9))) e_45
        have e_58 := hm_53.keep (rz_o1 (pl_ne e_46 e_44 (by intro h9; simp at h9))) e_46
        have u_59 := ht_55 _ _ u_38
        have u_60 := ht_55 _ _ u_39
        have hm_61 : sm ρ [6] ws_41 ws_51 := hm_53.up (fun k _ h => rz_u1 wt_14 k h)
        have hsm := hsm.tr (hm_61.mono (by decide))
        have htx := htx.tr ht_55
        have e_62 : ws_51[ktp]? = some (tp, .inr (6, [.int (nI tl), .int (nI (kdF f9 tl (nxF f9 tl ts))), .int (nI (nxF f9 tl ts)), .int (nI (teF f9 tl (nxF f9 tl ts))), .ref bb])) := hx_54; have hq_63 : pcB f9 tl (nxF f9 tl ts) := nxF_pc (f := f9) hp_9.1; have hq_631 := hq_63.1; have hq_63t := teF_le (f := f9) hq_63.1; have hg_64 := nx_gain (f := f9) hp_9.1
        refine lv_iconst (v := 1) hx hb dX4_readNumber_89 (by decide) ?_
        exact W.zret (v := 1) hx hb hr rfl (fun t ht hW => ⟨⟨1, 1, rfl, rfl, ws_51, ty_52, hsm, htx, by rw [ht]; exact hP, va_K.moved hW.alike hK, hD, ⟨0, nxF f9 tl ts, vlN f9 ts (teF f9 tl ts - ts), Or.inr (Or.inr (Or.inr ⟨d_24, by omega, by omega, rfl, rfl, rfl⟩)), Or.inr ⟨rfl, rfl, (⟨kc_1, cc_2, tc_3, fc_4, kb_5, cb_6, tb_7, fb_8, hq_63, hT_10, e_56, e_62, wr_13, wt_14, e_57, u_59, wc_17, hc_18, e_58, u_60, wb_21, hb_22⟩ : RSX ρ ws_51 ty_52 f9 rd krd tp ktp cd bb tl (nxF f9 tl ts) T nk fr fk fp (nI (vlN f9 ts (teF f9 tl ts - ts))))⟩⟩⟩, hS.F ht⟩) hS.2.2 dX4_readNumber_90
      have d_65 := n_nle (a := vlN f9 ts (teF f9 tl ts - ts)) (b := mo) (by omega) (by omega) c_47
      refine lv_aload_n hx hb dX4_readNumber_69 rfl (lv_at hl 0 rfl) ?_
      refine lv_iconst (v := 2) hx hb dX4_readNumber_70 (by decide) ?_
      refine lv_aload_n hx hb dX4_readNumber_71 rfl (lv_at hl 0 rfl) ?_
      refine va_get (D := D) (ci := 4) (v := .ref tp) (C := RX4) (T := TX4) (N := 8) hx hb hts hin4 hown hK hP krd e_43 rfl 0 (by decide) (hts (.fieldLink RX4 12 "HoneyHouse$RuleReader" "tape" "LHoneyHouse$Tape;") (List.mem_of_getElem? (i := 1) rfl)) (fun _ h9 => h9) rfl dX4_readNumber_72 ?_
      refine va_get (D := D) (ci := 6) (v := .int (nI ts)) (C := RX6) (T := TX6) (N := 5) hx hb hts hin6 hown hK hP ktp e_44 rfl 2 (by decide) (hts (.fieldLink RX4 73 "HoneyHouse$Tape" "start" "I") (List.mem_of_getElem? (i := 4) rfl)) (fun _ h9 => h9) rfl dX4_readNumber_75 ?_
      have hFc := free_all hD hS hA
      refine va_calli (va_runV (As := [.int 2, .int (nI ts)]) (rest := []) ⟨hx, hb, hml, hown, hts⟩ (r_failAt l D ρ ws_41 ty_30 adK adV fo f9 rd krd tp ktp cd bb tl ts T nk fr fk fp (nI (vlN f9 ts (teF f9 tl ts - ts))) 2 (nI ts) H.size htl hng (⟨kc_1, cc_2, tc_3, fc_4, kb_5, cb_6, tb_7, fb_8, hp_9, hT_10, e_43, e_44, wr_13, wt_14, e_45, u_38, wc_17, hc_18, e_46, u_39, wb_21, hb_22⟩ : RSX ρ ws_41 ty_30 f9 rd krd tp ktp cd bb tl ts T nk fr fk fp (nI (vlN f9 ts (teF f9 tl ts - ts)))) ) (cwV 2 hts gX4_readNumber_X4_failAt rfl rfl rfl (by decide +kernel) ⟨Nat.le_of_ble_eq_true rfl, Nat.le_of_ble_eq_true rfl⟩) ⟨fun a U g mk q => by obtain ⟨q0, q1, qP, qK, qD, qS⟩ := q; exact ⟨q0, q1, qP, va_K.moved (u := U) (U := U.calling g mk a) (Vm.Alike.refl U.vm) qK, qD, SZ.same rfl rfl qS⟩, va_recv hK hP (ci := 4) (q0 := krd) rfl e_43, fun U hU hW => ⟨rfl, by rw [hU], by rw [hU]; exact hP, va_K.moved hW.alike hK, hD.weaken (fun _ _ _ _ => trivial), hsz9.go hS hW hU hFc⟩⟩ rfl rfl hl.1 rfl (lv_room (Nat.le_of_ble_eq_true rfl)) dX4_readNumber_78 ⟨Nat.le_of_ble_eq_true rfl, Nat.le_of_ble_eq_true rfl⟩) hS (fun q _ h => hFc q h) hFc (fun r_66 u t H1 locs ht hvm w_67 hB hz1 hk1 hS => ?_)
      subst w_67
      obtain ⟨ws_68, ty_69, hm_70, ht_72, hP1, hK1, hD1, hx_71⟩ := hB
      rw [ht] at hP1
      have hK := va_K.moved hvm.symm hK1
      have hD := hD1.weaken (fun _ _ _ h => hFc _ h)
      generalize H1 = H at hP1 hS ⊢
      have hP := hP1
      obtain ⟨g_74, e_73, h_75⟩ := hm_70.obj e_43
      obtain ⟨z_76, z_77, z_78, z_79, z_80, z_81, rfl⟩ := smX4 h_75
      obtain ⟨g_83, e_82, h_84⟩ := hm_70.obj e_44
      obtain ⟨z_85, z_86, z_87, z_88, rfl⟩ := smX6 h_84
      obtain ⟨f_90, e_89⟩ := hm_70.arrI e_45
      have u_91 := ht_72 _ _ u_38
      have e_92 := hm_70.keep (by rw [wb_21]; omega) e_46
      have u_93 := ht_72 _ _ u_39
      have hsm := hsm.tr (hm_70.mono (by decide))
      have htx := htx.tr ht_72
      obtain ⟨rfl, hR_94⟩ := hx_71
      obtain ⟨kc_95, cc_96, tc_97, fc_98, kb_99, cb_100, tb_101, fb_102, hp_103, hT_104, er_105, et_106, wr_107, wt_108, ec_109, uc_110, wc_111, hc_112, eb_113, ub_114, wb_115, hb_116⟩ := id hR_94
      have hp_1031 := hp_103.1
      have hp_103t := teF_le (f := f9) hp_103.1
      exact W.zret (v := 0) hx hb hr rfl (fun t ht hW => ⟨⟨0, 0, rfl, rfl, ws_68, ty_69, hsm, htx, by rw [ht]; exact hP, va_K.moved hW.alike hK, hD, ⟨2, ts, 0, Or.inr (Or.inr (Or.inl ⟨d_24, by omega, by omega, rfl, rfl⟩)), Or.inl ⟨rfl, by omega, by omega, _, (⟨kc_95, cc_96, tc_97, fc_98, kb_99, cb_100, tb_101, fb_102, hp_103, hT_104, er_105, et_106, wr_107, wt_108, ec_109, uc_110, wc_111, hc_112, eb_113, ub_114, wb_115, hb_116⟩ : RSX ρ ws_68 ty_69 f9 rd krd tp ktp cd bb tl ts T nk fr 2 (nI ts) (nI (vlN f9 ts (teF f9 tl ts - ts))))⟩⟩⟩, hS.F ht⟩) hS.2.2 dX4_readNumber_81
    have d_117 := n_nle (a := (teF f9 tl ts) - ts) (b := 5) (by omega) (by omega) c_25
    refine lv_aload_n hx hb dX4_readNumber_35 rfl (lv_at hl 0 rfl) ?_
    refine lv_iconst (v := 1) hx hb dX4_readNumber_36 (by decide) ?_
    refine lv_aload_n hx hb dX4_readNumber_37 rfl (lv_at hl 0 rfl) ?_
    refine va_get (D := D) (ci := 4) (v := .ref tp) (C := RX4) (T := TX4) (N := 8) hx hb hts hin4 hown hK hP krd er_11 rfl 0 (by decide) (hts (.fieldLink RX4 12 "HoneyHouse$RuleReader" "tape" "LHoneyHouse$Tape;") (List.mem_of_getElem? (i := 1) rfl)) (fun _ h9 => h9) rfl dX4_readNumber_38 ?_
    refine va_get (D := D) (ci := 6) (v := .int (nI ts)) (C := RX6) (T := TX6) (N := 5) hx hb hts hin6 hown hK hP ktp et_12 rfl 2 (by decide) (hts (.fieldLink RX4 73 "HoneyHouse$Tape" "start" "I") (List.mem_of_getElem? (i := 4) rfl)) (fun _ h9 => h9) rfl dX4_readNumber_41 ?_
    refine lv_iconst (v := 5) hx hb dX4_readNumber_44 (by decide) ?_
    refine lv_iadd hx hb dX4_readNumber_45 ?_
    refine tp_i (y := nI (ts + 5)) (nI_add ts 5) ?_
    have hFc := free_all hD hS hA
    refine va_calli (va_runV (As := [.int 1, .int (nI (ts + 5))]) (rest := []) ⟨hx, hb, hml, hown, hts⟩ (r_failAt l D ρ ws tys adK adV fo f9 rd krd tp ktp cd bb tl ts T nk fr fk fp vl 1 (nI (ts + 5)) s.heap.size htl hng (⟨kc_1, cc_2, tc_3, fc_4, kb_5, cb_6, tb_7, fb_8, hp_9, hT_10, er_11, et_12, wr_13, wt_14, ec_15, uc_16, wc_17, hc_18, eb_19, ub_20, wb_21, hb_22⟩ : RSX ρ ws tys f9 rd krd tp ktp cd bb tl ts T nk fr fk fp vl) ) (cwV 2 hts gX4_readNumber_X4_failAt rfl rfl rfl (by decide +kernel) ⟨Nat.le_of_ble_eq_true rfl, Nat.le_of_ble_eq_true rfl⟩) ⟨fun a U g mk q => by obtain ⟨q0, q1, qP, qK, qD, qS⟩ := q; exact ⟨q0, q1, qP, va_K.moved (u := U) (U := U.calling g mk a) (Vm.Alike.refl U.vm) qK, qD, SZ.same rfl rfl qS⟩, va_recv hK hP (ci := 4) (q0 := krd) rfl er_11, fun U hU hW => ⟨rfl, by rw [hU], by rw [hU]; exact hP, va_K.moved hW.alike hK, hD.weaken (fun _ _ _ _ => trivial), hsz9.go hS hW hU hFc⟩⟩ rfl rfl hl.1 rfl (lv_room (Nat.le_of_ble_eq_true rfl)) dX4_readNumber_46 ⟨Nat.le_of_ble_eq_true rfl, Nat.le_of_ble_eq_true rfl⟩) hS (fun q _ h => hFc q h) hFc (fun r_118 u t H1 locs ht hvm w_119 hB hz1 hk1 hS => ?_)
    subst w_119
    obtain ⟨ws_120, ty_121, hm_122, ht_124, hP1, hK1, hD1, hx_123⟩ := hB
    rw [ht] at hP1
    have hK := va_K.moved hvm.symm hK1
    have hD := hD1.weaken (fun _ _ _ h => hFc _ h)
    generalize H1 = H at hP1 hS ⊢
    have hP := hP1
    obtain ⟨g_126, e_125, h_127⟩ := hm_122.obj er_11
    obtain ⟨z_128, z_129, z_130, z_131, z_132, z_133, rfl⟩ := smX4 h_127
    obtain ⟨g_135, e_134, h_136⟩ := hm_122.obj et_12
    obtain ⟨z_137, z_138, z_139, z_140, rfl⟩ := smX6 h_136
    obtain ⟨f_142, e_141⟩ := hm_122.arrI ec_15
    have u_143 := ht_124 _ _ uc_16
    have e_144 := hm_122.keep (by rw [wb_21]; omega) eb_19
    have u_145 := ht_124 _ _ ub_20
    have hsm := hsm.tr (hm_122.mono (by decide))
    have htx := htx.tr ht_124
    obtain ⟨rfl, hR_146⟩ := hx_123
    obtain ⟨kc_147, cc_148, tc_149, fc_150, kb_151, cb_152, tb_153, fb_154, hp_155, hT_156, er_157, et_158, wr_159, wt_160, ec_161, uc_162, wc_163, hc_164, eb_165, ub_166, wb_167, hb_168⟩ := id hR_146
    have hp_1551 := hp_155.1
    have hp_155t := teF_le (f := f9) hp_155.1
    exact W.zret (v := 0) hx hb hr rfl (fun t ht hW => ⟨⟨0, 0, rfl, rfl, ws_120, ty_121, hsm, htx, by rw [ht]; exact hP, va_K.moved hW.alike hK, hD, ⟨1, ts + 5, 0, Or.inr (Or.inl ⟨d_24, by omega, rfl, rfl⟩), Or.inl ⟨rfl, by omega, by omega, _, (⟨kc_147, cc_148, tc_149, fc_150, kb_151, cb_152, tb_153, fb_154, hp_155, hT_156, er_157, et_158, wr_159, wt_160, ec_161, uc_162, wc_163, hc_164, eb_165, ub_166, wb_167, hb_168⟩ : RSX ρ ws_120 ty_121 f9 rd krd tp ktp cd bb tl ts T nk fr 1 (nI (ts + 5)) vl)⟩⟩⟩, hS.F ht⟩) hS.2.2 dX4_readNumber_49
  have d_169 := n_ne (a := kdF f9 tl ts) (b := 2) (by omega) (by omega) c_23
  refine lv_aload_n hx hb dX4_readNumber_11 rfl (lv_at hl 0 rfl) ?_
  have hFc := free_all hD hS hA
  refine va_calli (va_runV (As := []) (rest := []) ⟨hx, hb, hml, hown, hts⟩ (r_failHere l D ρ ws tys adK adV fo f9 rd krd tp ktp cd bb tl ts T nk fr fk fp vl  s.heap.size htl hng (⟨kc_1, cc_2, tc_3, fc_4, kb_5, cb_6, tb_7, fb_8, hp_9, hT_10, er_11, et_12, wr_13, wt_14, ec_15, uc_16, wc_17, hc_18, eb_19, ub_20, wb_21, hb_22⟩ : RSX ρ ws tys f9 rd krd tp ktp cd bb tl ts T nk fr fk fp vl) ) (cwV 0 hts gX4_readNumber_X4_failHere rfl rfl rfl (by decide +kernel) ⟨Nat.le_of_ble_eq_true rfl, Nat.le_of_ble_eq_true rfl⟩) ⟨fun a U g mk q => by obtain ⟨q0, q1, qP, qK, qD, qS⟩ := q; exact ⟨q0, q1, qP, va_K.moved (u := U) (U := U.calling g mk a) (Vm.Alike.refl U.vm) qK, qD, SZ.same rfl rfl qS⟩, va_recv hK hP (ci := 4) (q0 := krd) rfl er_11, fun U hU hW => ⟨rfl, by rw [hU], by rw [hU]; exact hP, va_K.moved hW.alike hK, hD.weaken (fun _ _ _ _ => trivial), hsz9.go hS hW hU hFc⟩⟩ rfl rfl hl.1 rfl (lv_room (Nat.le_of_ble_eq_true rfl)) dX4_readNumber_12 ⟨Nat.le_of_ble_eq_true rfl, Nat.le_of_ble_eq_true rfl⟩) hS (fun q _ h => hFc q h) hFc (fun r_170 u t H1 locs ht hvm w_171 hB hz1 hk1 hS => ?_)
  subst w_171
  obtain ⟨ws_172, ty_173, hm_174, ht_176, hP1, hK1, hD1, hx_175⟩ := hB
  rw [ht] at hP1
  have hK := va_K.moved hvm.symm hK1
  have hD := hD1.weaken (fun _ _ _ h => hFc _ h)
  generalize H1 = H at hP1 hS ⊢
  have hP := hP1
  obtain ⟨g_178, e_177, h_179⟩ := hm_174.obj er_11
  obtain ⟨z_180, z_181, z_182, z_183, z_184, z_185, rfl⟩ := smX4 h_179
  obtain ⟨g_187, e_186, h_188⟩ := hm_174.obj et_12
  obtain ⟨z_189, z_190, z_191, z_192, rfl⟩ := smX6 h_188
  obtain ⟨f_194, e_193⟩ := hm_174.arrI ec_15
  have u_195 := ht_176 _ _ uc_16
  have e_196 := hm_174.keep (by rw [wb_21]; omega) eb_19
  have u_197 := ht_176 _ _ ub_20
  have hsm := hsm.tr (hm_174.mono (by decide))
  have htx := htx.tr ht_176
  obtain ⟨rfl, hR_198⟩ := hx_175
  obtain ⟨kc_199, cc_200, tc_201, fc_202, kb_203, cb_204, tb_205, fb_206, hp_207, hT_208, er_209, et_210, wr_211, wt_212, ec_213, uc_214, wc_215, hc_216, eb_217, ub_218, wb_219, hb_220⟩ := id hR_198
  have hp_2071 := hp_207.1
  have hp_207t := teF_le (f := f9) hp_207.1
  exact W.zret (v := 0) hx hb hr rfl (fun t ht hW => ⟨⟨0, 0, rfl, rfl, ws_172, ty_173, hsm, htx, by rw [ht]; exact hP, va_K.moved hW.alike hK, hD, ⟨1, ts, 0, Or.inl ⟨d_169, rfl, rfl⟩, Or.inl ⟨rfl, by omega, by omega, _, (⟨kc_199, cc_200, tc_201, fc_202, kb_203, cb_204, tb_205, fb_206, hp_207, hT_208, er_209, et_210, wr_211, wt_212, ec_213, uc_214, wc_215, hc_216, eb_217, ub_218, wb_219, hb_220⟩ : RSX ρ ws_172 ty_173 f9 rd krd tp ktp cd bb tl ts T nk fr 1 (nI ts) vl)⟩⟩⟩, hS.F ht⟩) hS.2.2 dX4_readNumber_15
set_option maxHeartbeats 4000000 in
set_option maxRecDepth 100000 in
theorem r_readName (l : Launch) (D : va_G) (ρ : Nat → Nat) (ws : va_W) (tys : List (ClassId × FieldType)) (adK adV : Nat → Nat) (fo : Option Nat) (f9 : Nat → Int32) (rd krd tp ktp cd bb tl ts : Nat) (T : List Tk) (nk : Int64) (fr fk fp vl : Int32)  (sz : Nat) (htl : tl ≤ 400) (hng : ∀ i : Nat, i < tl → ¬ f9 i = -1) (R0 : RSX ρ ws tys f9 rd krd tp ktp cd bb tl ts T nk fr fk fp vl)  : Met l yX4_readName wsX4_readName ({ frames := 7, cells := 0, slots := 0, locals := 147 }) (va_Pc [.ref rd] (fun U => U.heap.size = sz ∧ va_P D vwCl ws U.heap ∧ va_K D vwCl tys U ∧ va_D (fun _ => True) ws ∧ SZ adK adV fo (va_A ws sz) U U.heap)) (va_Qi (fun (r : Int32) (s9 : Int32) => r = s9) (fun (s9 : Int32) (t : State) => ∃ (ws' : va_W) (tys' : List (ClassId × FieldType)), sm ρ [4, 6] ws ws' ∧ tyx tys tys' ∧ va_P D vwCl ws' t.heap ∧ va_K D vwCl tys' t ∧ va_D (va_A ws sz) ws' ∧ ((s9 = 0 ∧ ((¬ wdE f9 tl ts = 11 ∧ RSX ρ ws' tys' f9 rd krd tp ktp cd bb tl ts T nk fr 1 (nI ts) vl) ∨ (wdE f9 tl ts = 11 ∧ ts + 12 < teF f9 tl ts ∧ RSX ρ ws' tys' f9 rd krd tp ktp cd bb tl ts T nk fr 1 (nI (ts + 12)) vl))) ∨ (s9 = 1 ∧ wdE f9 tl ts = 11 ∧ ¬ ts + 12 < teF f9 tl ts ∧ ∃ nk9 : Int64, RSX ρ ws' tys' f9 rd krd tp ktp cd bb tl (nxF f9 tl ts) T nk9 fr fk fp vl))) (va_A ws sz)) 0 0 (va_A ws sz) := by
  refine Met.ofW (cc := cX4_readName) (maxL := 1) (ret := (some .boolean)) (by decide) rfl ?_
  intro p e s m args below meth c s₁ B hml hv
  obtain ⟨rfl, hsz, hP, hK, hD0, hsz9⟩ := hv
  have hx := B.exec
  have hb := B.bytes
  have hr := B.returns
  have hts := atoms_spec (ws := wsX4_readName) B.pre
  have hown : s.vm.findClass RX4 = some m.cls := findClass_of_methodNamed B.named
  have hlocks := B.notSynchronized
  subst hsz
  have hD := hD0.self (sz := s.heap.size)
  generalize hAe : va_A ws s.heap.size = A at hD hsz9 ⊢
  have hA : ∀ q : Nat, s.heap.size ≤ q → A q := fun q h => by rw [← hAe]; exact Or.inr h
  have hS : va_S A s.heap s.heap [] := va_S.rf
  have hsm : sm ρ [4, 6] ws ws := sm.rf ws
  have htx : tyx tys tys := tyx.rf tys
  have hin4 : ∀ w ∈ u_ws RX4 TX4 8, w ∈ wsX4_readName := (fun _ h9 => List.mem_cons_of_mem _ (List.mem_append_left _ ((List.mem_append_right _ h9))))
  have hin6 : ∀ w ∈ u_ws RX6 TX6 5, w ∈ wsX4_readName := (fun _ h9 => List.mem_cons_of_mem _ ((List.mem_append_right _ h9)))
  have hl := lv_entry ([.ref rd]) (n := 1) (Nat.le_of_ble_eq_true rfl)
  rw [lg_entry_eq]
  generalize (lg_sl ([.ref rd]) ++ List.replicate (1 - (lg_sl ([.ref rd])).length) Slot.unset).toArray = ls at hl ⊢
  have hl : lv_has ls 1 [(0, .ref rd)] := hl
  obtain ⟨kc_1, cc_2, tc_3, fc_4, kb_5, cb_6, tb_7, fb_8, hp_9, hT_10, er_11, et_12, wr_13, wt_14, ec_15, uc_16, wc_17, hc_18, eb_19, ub_20, wb_21, hb_22⟩ := id R0
  have hp_91 := hp_9.1
  have hp_9t := teF_le (f := f9) hp_9.1
  have hkl := kdF_le (f := f9) (n := tl) (b := ts)
  have htl9 := teF_le (f := f9) (n := tl) (b := ts) hp_91
  have hwc := wdE_c (f := f9) (n := tl) (b := ts)
  refine lv_aload_n hx hb dX4_readName_0 rfl (lv_at hl 0 rfl) ?_
  refine va_get (D := D) (ci := 4) (v := .ref tp) (C := RX4) (T := TX4) (N := 8) hx hb hts hin4 hown hK hP krd er_11 rfl 0 (by decide) (hts (.fieldLink RX4 12 "HoneyHouse$RuleReader" "tape" "LHoneyHouse$Tape;") (List.mem_of_getElem? (i := 1) rfl)) (fun _ h9 => h9) rfl dX4_readName_1 ?_
  refine va_get (D := D) (ci := 6) (v := .int (nI (kdF f9 tl ts))) (C := RX6) (T := TX6) (N := 5) hx hb hts hin6 hown hK hP ktp et_12 rfl 1 (by decide) (hts (.fieldLink RX4 61 "HoneyHouse$Tape" "kind" "I") (List.mem_of_getElem? (i := 2) rfl)) (fun _ h9 => h9) rfl dX4_readName_4 ?_
  refine lv_iconst (v := 1) hx hb dX4_readName_7 (by decide) ?_
  refine lv_icmp_ne (tgt := 18) hx hb dX4_readName_8 (by decide) (fun c_23 => ?_) (fun c_23 => ?_)
  · have d_24 := n_ne (a := kdF f9 tl ts) (b := 1) (by omega) (by omega) c_23
    refine lv_aload_n hx hb dX4_readName_18 rfl (lv_at hl 0 rfl) ?_
    have hFc := free_all hD hS hA
    refine va_calli (va_runV (As := []) (rest := []) ⟨hx, hb, hml, hown, hts⟩ (r_failHere l D ρ ws tys adK adV fo f9 rd krd tp ktp cd bb tl ts T nk fr fk fp vl  s.heap.size htl hng (⟨kc_1, cc_2, tc_3, fc_4, kb_5, cb_6, tb_7, fb_8, hp_9, hT_10, er_11, et_12, wr_13, wt_14, ec_15, uc_16, wc_17, hc_18, eb_19, ub_20, wb_21, hb_22⟩ : RSX ρ ws tys f9 rd krd tp ktp cd bb tl ts T nk fr fk fp vl) ) (cwV 0 hts gX4_readName_X4_failHere rfl rfl rfl (by decide +kernel) ⟨Nat.le_of_ble_eq_true rfl, Nat.le_of_ble_eq_true rfl⟩) ⟨fun a U g mk q => by obtain ⟨q0, q1, qP, qK, qD, qS⟩ := q; exact ⟨q0, q1, qP, va_K.moved (u := U) (U := U.calling g mk a) (Vm.Alike.refl U.vm) qK, qD, SZ.same rfl rfl qS⟩, va_recv hK hP (ci := 4) (q0 := krd) rfl er_11, fun U hU hW => ⟨rfl, by rw [hU], by rw [hU]; exact hP, va_K.moved hW.alike hK, hD.weaken (fun _ _ _ _ => trivial), hsz9.go hS hW hU hFc⟩⟩ rfl rfl hl.1 rfl (lv_room (Nat.le_of_ble_eq_true rfl)) dX4_readName_19 ⟨Nat.le_of_ble_eq_true rfl, Nat.le_of_ble_eq_true rfl⟩) hS (fun q _ h => hFc q h) hFc (fun r_25 u t H1 locs ht hvm w_26 hB hz1 hk1 hS => ?_)
    subst w_26
    obtain ⟨ws_27, ty_28, hm_29, ht_31, hP1, hK1, hD1, hx_30⟩ := hB
    rw [ht] at hP1
    have hK := va_K.moved hvm.symm hK1
    have hD := hD1.weaken (fun _ _ _ h => hFc _ h)
    generalize H1 = H at hP1 hS ⊢
    have hP := hP1
    obtain ⟨g_33, e_32, h_34⟩ := hm_29.obj er_11
    obtain ⟨z_35, z_36, z_37, z_38, z_39, z_40, rfl⟩ := smX4 h_34
    obtain ⟨g_42, e_41, h_43⟩ := hm_29.obj et_12
    obtain ⟨z_44, z_45, z_46, z_47, rfl⟩ := smX6 h_43
    obtain ⟨f_49, e_48⟩ := hm_29.arrI ec_15
    have u_50 := ht_31 _ _ uc_16
    have e_51 := hm_29.keep (by rw [wb_21]; omega) eb_19
    have u_52 := ht_31 _ _ ub_20
    have hsm := hsm.tr (hm_29.mono (by decide))
    have htx := htx.tr ht_31
    obtain ⟨rfl, hR_53⟩ := hx_30
    obtain ⟨kc_54, cc_55, tc_56, fc_57, kb_58, cb_59, tb_60, fb_61, hp_62, hT_63, er_64, et_65, wr_66, wt_67, ec_68, uc_69, wc_70, hc_71, eb_72, ub_73, wb_74, hb_75⟩ := id hR_53
    have hp_621 := hp_62.1
    have hp_62t := teF_le (f := f9) hp_62.1
    exact W.zret (v := 0) hx hb hr rfl (fun t ht hW => ⟨⟨0, 0, rfl, rfl, ws_27, ty_28, hsm, htx, by rw [ht]; exact hP, va_K.moved hW.alike hK, hD, Or.inl ⟨rfl, Or.inl ⟨by omega, (⟨kc_54, cc_55, tc_56, fc_57, kb_58, cb_59, tb_60, fb_61, hp_62, hT_63, er_64, et_65, wr_66, wt_67, ec_68, uc_69, wc_70, hc_71, eb_72, ub_73, wb_74, hb_75⟩ : RSX ρ ws_27 ty_28 f9 rd krd tp ktp cd bb tl ts T nk fr 1 (nI ts) vl)⟩⟩⟩, hS.F ht⟩) hS.2.2 dX4_readName_22
  have d_76 := n_eq (a := kdF f9 tl ts) (b := 1) (by omega) (by omega) c_23
  refine lv_aload_n hx hb dX4_readName_11 rfl (lv_at hl 0 rfl) ?_
  have hFc := free_all hD hS hA
  refine va_calli (va_runV (As := []) (rest := []) ⟨hx, hb, hml, hown, hts⟩ (r_isKeptWord l D (rz []) ws tys adK adV fo f9 rd krd tp ktp cd tl ts nk fr fk fp (nI T.length) vl bb kb_5 cb_6 tb_7 fb_8 s.heap.size er_11 htl hb_22 hng hp_9 et_12 eb_19 ub_20 rz_o0) (cwV 0 hts gX4_readName_X4_isKeptWord rfl rfl rfl (by decide +kernel) ⟨Nat.le_of_ble_eq_true rfl, Nat.le_of_ble_eq_true rfl⟩) ⟨fun a U g mk q => by obtain ⟨q0, q1, qP, qK, qD, qS⟩ := q; exact ⟨q0, q1, qP, va_K.moved (u := U) (U := U.calling g mk a) (Vm.Alike.refl U.vm) qK, qD, SZ.same rfl rfl qS⟩, va_recv hK hP (ci := 4) (q0 := krd) rfl er_11, fun U hU hW => ⟨rfl, by rw [hU], by rw [hU]; exact hP, va_K.moved hW.alike hK, hD.weaken (fun _ _ _ _ => trivial), hsz9.go hS hW hU hFc⟩⟩ rfl rfl hl.1 rfl (lv_room (Nat.le_of_ble_eq_true rfl)) dX4_readName_12 ⟨Nat.le_of_ble_eq_true rfl, Nat.le_of_ble_eq_true rfl⟩) hS (fun q _ h => hFc q h) hFc (fun r_77 u t H1 locs ht hvm w_78 hB hz1 hk1 hS => ?_)
  obtain ⟨ws_79, ty_80, hm_81, ht_83, hP1, hK1, hD1, hx_82⟩ := hB
  rw [ht] at hP1
  have hK := va_K.moved hvm.symm hK1
  have hD := hD1.weaken (fun _ _ _ h => hFc _ h)
  generalize H1 = H at hP1 hS ⊢
  have hP := hP1
  have e_84 := hm_81.keep rz_o0 er_11
  have e_85 := hm_81.keep rz_o0 et_12
  have e_86 := hm_81.keep rz_o0 ec_15
  have e_87 := hm_81.keep rz_o0 eb_19
  have u_88 := ht_83 _ _ uc_16
  have u_89 := ht_83 _ _ ub_20
  have hm_90 : sm ρ [] ws ws_79 := hm_81.up (fun k _ h => rz_u0  k h)
  have hsm := hsm.tr (hm_90.mono (by decide))
  have htx := htx.tr ht_83
  rcases w_78 with ⟨rfl, kw_91⟩ | ⟨rfl, kw_91⟩
  · refine lv_if_eq (tgt := 23) hx hb dX4_readName_15 (by decide) (fun c_92 => ?_) (fun c_92 => absurd (by decide) c_92)
    refine lv_aload_n hx hb dX4_readName_23 rfl (lv_at hl 0 rfl) ?_
    refine va_get (D := D) (ci := 4) (v := .ref tp) (C := RX4) (T := TX4) (N := 8) hx hb hts hin4 hown hK hP krd e_84 rfl 0 (by decide) (hts (.fieldLink RX4 12 "HoneyHouse$RuleReader" "tape" "LHoneyHouse$Tape;") (List.mem_of_getElem? (i := 1) rfl)) (fun _ h9 => h9) rfl dX4_readName_24 ?_
    refine va_get (D := D) (ci := 6) (v := .int (nI (teF f9 tl ts))) (C := RX6) (T := TX6) (N := 5) hx hb hts hin6 hown hK hP ktp e_85 rfl 3 (by decide) (hts (.fieldLink RX4 83 "HoneyHouse$Tape" "end" "I") (List.mem_of_getElem? (i := 3) rfl)) (fun _ h9 => h9) rfl dX4_readName_27 ?_
    refine lv_aload_n hx hb dX4_readName_30 rfl (lv_at hl 0 rfl) ?_
    refine va_get (D := D) (ci := 4) (v := .ref tp) (C := RX4) (T := TX4) (N := 8) hx hb hts hin4 hown hK hP krd e_84 rfl 0 (by decide) (hts (.fieldLink RX4 12 "HoneyHouse$RuleReader" "tape" "LHoneyHouse$Tape;") (List.mem_of_getElem? (i := 1) rfl)) (fun _ h9 => h9) rfl dX4_readName_31 ?_
    refine va_get (D := D) (ci := 6) (v := .int (nI ts)) (C := RX6) (T := TX6) (N := 5) hx hb hts hin6 hown hK hP ktp e_85 rfl 2 (by decide) (hts (.fieldLink RX4 73 "HoneyHouse$Tape" "start" "I") (List.mem_of_getElem? (i := 4) rfl)) (fun _ h9 => h9) rfl dX4_readName_34 ?_
    refine lv_isub hx hb dX4_readName_37 ?_
    refine tp_i (y := nI ((teF f9 tl ts) - ts)) (pk_sub (a := teF f9 tl ts) (b := ts) (by omega)) ?_
    refine lv_bipush (v := 12) hx hb dX4_readName_38 (by decide) ?_
    refine lv_icmp_le (tgt := 59) hx hb dX4_readName_40 (by decide) (fun c_93 => ?_) (fun c_93 => ?_)
    · have d_94 := n_le (a := (teF f9 tl ts) - ts) (b := 12) (by omega) (by omega) c_93
      refine lv_aload_n hx hb dX4_readName_59 rfl (lv_at hl 0 rfl) ?_
      refine lv_aload_n hx hb dX4_readName_60 rfl (lv_at hl 0 rfl) ?_
      refine va_get (D := D) (ci := 4) (v := .ref tp) (C := RX4) (T := TX4) (N := 8) hx hb hts hin4 hown hK hP krd e_84 rfl 0 (by decide) (hts (.fieldLink RX4 12 "HoneyHouse$RuleReader" "tape" "LHoneyHouse$Tape;") (List.mem_of_getElem? (i := 1) rfl)) (fun _ h9 => h9) rfl dX4_readName_61 ?_
      have hFc := free_all hD hS hA
      refine va_calll (va_runV (As := []) (rest := [.ref rd]) ⟨hx, hb, hml, hown, hts⟩ (a_wordKey l D (rz []) ws_79 ty_80 f9 tp ktp tl ts bb kb_5 cb_6 tb_7 fb_8 H.size htl hb_22 hng hp_9 e_85 e_87 u_89 rz_o0) (cwV 0 hts gX4_readName_X6_wordKey rfl rfl rfl (by decide +kernel) ⟨Nat.le_of_ble_eq_true rfl, Nat.le_of_ble_eq_true rfl⟩) ⟨fun a U g mk q => by obtain ⟨q0, q1, qP, qK, qD⟩ := q; exact ⟨q0, q1, qP, va_K.moved (u := U) (U := U.calling g mk a) (Vm.Alike.refl U.vm) qK, qD⟩, va_recv hK hP (ci := 6) (q0 := ktp) rfl e_85, fun U hU hW => ⟨rfl, by rw [hU], by rw [hU]; exact hP, va_K.moved hW.alike hK, hD.weaken (fun _ _ _ _ => trivial)⟩⟩ rfl rfl hl.1 rfl (lv_room (Nat.le_of_ble_eq_true rfl)) dX4_readName_64 ⟨Nat.le_of_ble_eq_true rfl, Nat.le_of_ble_eq_true rfl⟩) hS (fun q _ h => hFc q h) hFc (fun r_95 u t H1 locs ht hvm w_96 hB hz1 hk1 hS => ?_)
      obtain ⟨ws_97, ty_98, hm_99, ht_101, hP1, hK1, hD1, hx_100⟩ := hB
      rw [ht] at hP1
      have hK := va_K.moved hvm.symm hK1
      have hD := hD1.weaken (fun _ _ _ h => hFc _ h)
      generalize H1 = H at hP1 hS ⊢
      have hP := hP1
      have e_102 := hm_99.keep rz_o0 e_84
      have e_103 := hm_99.keep rz_o0 e_85
      have e_104 := hm_99.keep rz_o0 e_86
      have e_105 := hm_99.keep rz_o0 e_87
      have u_106 := ht_101 _ _ u_88
      have u_107 := ht_101 _ _ u_89
      have hm_108 : sm ρ [] ws_79 ws_97 := hm_99.up (fun k _ h => rz_u0  k h)
      have hsm := hsm.tr (hm_108.mono (by decide))
      have htx := htx.tr ht_101
      refine va_put (D := D) (ci := 4) (v := .long r_95) (ty := .long) (C := RX4) (T := TX4) (N := 8) hx hb hts hin4 tyX4 tyX4_ok nmX4 hown hK hP hD hS krd e_102 rfl 1 (by decide) (hts (.fieldLink RX4 90 "HoneyHouse$RuleReader" "nameKey" "J") (List.mem_of_getElem? (i := 5) rfl)) (fun _ h9 => h9) rfl (tyX4_ok 1 (by decide)) rfl rfl (Nat.le_of_ble_eq_true rfl) dX4_readName_67 (fun H locs hP hD hS => ?_)
      have hP : va_P D vwCl (ws_97.set krd (rd, .inr (4, [.ref tp, .long r_95, .int fr, .int fk, .int fp, .ref cd, .int (nI T.length), .int vl]))) H := hP
      have hD : va_D A (ws_97.set krd (rd, .inr (4, [.ref tp, .long r_95, .int fr, .int fk, .int fp, .ref cd, .int (nI T.length), .int vl]))) := hD
      have hm_110 : sm ρ [4] ws_97 (ws_97.set krd (rd, .inr (4, [.ref tp, .long r_95, .int fr, .int fk, .int fp, .ref cd, .int (nI T.length), .int vl]))) := sm.flds e_102 (smF.c (smV.rf _) (smF.c (smV.l _ _) (smF.c (smV.rf _) (smF.c (smV.rf _) (smF.c (smV.rf _) (smF.c (smV.rf _) (smF.c (smV.rf _) (smF.c (smV.rf _) (rfl))))))))) (List.mem_singleton.mpr rfl) wr_13
      have e_111 : (ws_97.set krd (rd, .inr (4, [.ref tp, .long r_95, .int fr, .int fk, .int fp, .ref cd, .int (nI T.length), .int vl])))[krd]? = some (rd, .inr (4, [.ref tp, .long r_95, .int fr, .int fk, .int fp, .ref cd, .int (nI T.length), .int vl])) := wset_self e_102
      have e_112 := set_n (z := (rd, .inr (4, [.ref tp, .long r_95, .int fr, .int fk, .int fp, .ref cd, .int (nI T.length), .int vl]))) e_103 (pl_ne e_103 e_102 (by intro h9; simp at h9))
      have e_113 := set_n (z := (rd, .inr (4, [.ref tp, .long r_95, .int fr, .int fk, .int fp, .ref cd, .int (nI T.length), .int vl]))) e_104 (pl_ne e_104 e_102 (by intro h9; simp at h9))
      have e_114 := set_n (z := (rd, .inr (4, [.ref tp, .long r_95, .int fr, .int fk, .int fp, .ref cd, .int (nI T.length), .int vl]))) e_105 (pl_ne e_105 e_102 (by intro h9; simp at h9))
      generalize ws_97.set krd (rd, .inr (4, [.ref tp, .long r_95, .int fr, .int fk, .int fp, .ref cd, .int (nI T.length), .int vl])) = ws_109 at hP hD hm_110 e_111 e_112 e_113 e_114
      have hsm := hsm.tr (hm_110.mono (by decide))
      refine lv_aload_n hx hb dX4_readName_70 rfl (lv_at hl 0 rfl) ?_
      refine va_get (D := D) (ci := 4) (v := .ref tp) (C := RX4) (T := TX4) (N := 8) hx hb hts hin4 hown hK hP krd e_111 rfl 0 (by decide) (hts (.fieldLink RX4 12 "HoneyHouse$RuleReader" "tape" "LHoneyHouse$Tape;") (List.mem_of_getElem? (i := 1) rfl)) (fun _ h9 => h9) rfl dX4_readName_71 ?_
      have hFc := free_all hD hS hA
      refine va_callv (va_runV (As := []) (rest := []) ⟨hx, hb, hml, hown, hts⟩ (a_advance l D (rz [ktp]) ws_109 ty_98 f9 tp ktp tl (teF f9 tl ts) (nI (kdF f9 tl ts)) (nI ts) bb kb_5 cb_6 tb_7 fb_8 H.size htl hb_22 hng (by omega) e_112 e_114 u_107 (rz_o1 (pl_ne e_114 e_112 (by intro h9; simp at h9))) (rz_in (by simp))) (cwV 0 hts gX4_readName_X6_advance rfl rfl rfl (by decide +kernel) ⟨Nat.le_of_ble_eq_true rfl, Nat.le_of_ble_eq_true rfl⟩) ⟨fun a U g mk q => by obtain ⟨q0, q1, qP, qK, qD⟩ := q; exact ⟨q0, q1, qP, va_K.moved (u := U) (U := U.calling g mk a) (Vm.Alike.refl U.vm) qK, qD⟩, va_recv hK hP (ci := 6) (q0 := ktp) rfl e_112, fun U hU hW => ⟨rfl, by rw [hU], by rw [hU]; exact hP, va_K.moved hW.alike hK, hD.weaken (fun _ _ _ _ => trivial)⟩⟩ rfl rfl hl.1 rfl (lv_room (Nat.le_of_ble_eq_true rfl)) dX4_readName_74 ⟨Nat.le_of_ble_eq_true rfl, Nat.le_of_ble_eq_true rfl⟩) hS (fun q _ h => hFc q h) hFc (fun u t H1 locs ht hvm w_116 hB hz1 hk1 hS => ?_)
      obtain ⟨ws_117, ty_118, hm_119, ht_121, hP1, hK1, hD1, hx_120⟩ := hB
      rw [ht] at hP1
      have hK := va_K.moved hvm.symm hK1
      have hD := hD1.weaken (fun _ _ _ h => hFc _ h)
      generalize H1 = H at hP1 hS ⊢
      have hP := hP1
      have e_122 := hm_119.keep (rz_o1 (pl_ne e_111 e_112 (by intro h9; simp at h9))) e_111
      have e_123 := hm_119.keep (rz_o1 (pl_ne e_113 e_112 (by intro h9; simp at h9))) e_113
      have e_124 := hm_119.keep (rz_o1 (pl_ne e_114 e_112 (by intro h9; simp at h9))) e_114
      have u_125 := ht_121 _ _ u_106
      have u_126 := ht_121 _ _ u_107
      have hm_127 : sm ρ [6] ws_109 ws_117 := hm_119.up (fun k _ h => rz_u1 wt_14 k h)
      have hsm := hsm.tr (hm_127.mono (by decide))
      have htx := htx.tr ht_121
      have e_128 : ws_117[ktp]? = some (tp, .inr (6, [.int (nI tl), .int (nI (kdF f9 tl (nxF f9 tl ts))), .int (nI (nxF f9 tl ts)), .int (nI (teF f9 tl (nxF f9 tl ts))), .ref bb])) := hx_120; have hq_129 : pcB f9 tl (nxF f9 tl ts) := nxF_pc (f := f9) hp_9.1; have hq_1291 := hq_129.1; have hq_129t := teF_le (f := f9) hq_129.1; have hg_130 := nx_gain (f := f9) hp_9.1
      refine lv_iconst (v := 1) hx hb dX4_readName_77 (by decide) ?_
      exact W.zret (v := 1) hx hb hr rfl (fun t ht hW => ⟨⟨1, 1, rfl, rfl, ws_117, ty_118, hsm, htx, by rw [ht]; exact hP, va_K.moved hW.alike hK, hD, Or.inr ⟨rfl, by omega, by omega, _, (⟨kc_1, cc_2, tc_3, fc_4, kb_5, cb_6, tb_7, fb_8, hq_129, hT_10, e_122, e_128, wr_13, wt_14, e_123, u_125, wc_17, hc_18, e_124, u_126, wb_21, hb_22⟩ : RSX ρ ws_117 ty_118 f9 rd krd tp ktp cd bb tl (nxF f9 tl ts) T r_95 fr fk fp vl)⟩⟩, hS.F ht⟩) hS.2.2 dX4_readName_78
    have d_131 := n_nle (a := (teF f9 tl ts) - ts) (b := 12) (by omega) (by omega) c_93
    refine lv_aload_n hx hb dX4_readName_43 rfl (lv_at hl 0 rfl) ?_
    refine lv_iconst (v := 1) hx hb dX4_readName_44 (by decide) ?_
    refine lv_aload_n hx hb dX4_readName_45 rfl (lv_at hl 0 rfl) ?_
    refine va_get (D := D) (ci := 4) (v := .ref tp) (C := RX4) (T := TX4) (N := 8) hx hb hts hin4 hown hK hP krd e_84 rfl 0 (by decide) (hts (.fieldLink RX4 12 "HoneyHouse$RuleReader" "tape" "LHoneyHouse$Tape;") (List.mem_of_getElem? (i := 1) rfl)) (fun _ h9 => h9) rfl dX4_readName_46 ?_
    refine va_get (D := D) (ci := 6) (v := .int (nI ts)) (C := RX6) (T := TX6) (N := 5) hx hb hts hin6 hown hK hP ktp e_85 rfl 2 (by decide) (hts (.fieldLink RX4 73 "HoneyHouse$Tape" "start" "I") (List.mem_of_getElem? (i := 4) rfl)) (fun _ h9 => h9) rfl dX4_readName_49 ?_
    refine lv_bipush (v := 12) hx hb dX4_readName_52 (by decide) ?_
    refine lv_iadd hx hb dX4_readName_54 ?_
    refine tp_i (y := nI (ts + 12)) (nI_add ts 12) ?_
    have hFc := free_all hD hS hA
    refine va_calli (va_runV (As := [.int 1, .int (nI (ts + 12))]) (rest := []) ⟨hx, hb, hml, hown, hts⟩ (r_failAt l D ρ ws_79 ty_80 adK adV fo f9 rd krd tp ktp cd bb tl ts T nk fr fk fp vl 1 (nI (ts + 12)) H.size htl hng (⟨kc_1, cc_2, tc_3, fc_4, kb_5, cb_6, tb_7, fb_8, hp_9, hT_10, e_84, e_85, wr_13, wt_14, e_86, u_88, wc_17, hc_18, e_87, u_89, wb_21, hb_22⟩ : RSX ρ ws_79 ty_80 f9 rd krd tp ktp cd bb tl ts T nk fr fk fp vl) ) (cwV 2 hts gX4_readName_X4_failAt rfl rfl rfl (by decide +kernel) ⟨Nat.le_of_ble_eq_true rfl, Nat.le_of_ble_eq_true rfl⟩) ⟨fun a U g mk q => by obtain ⟨q0, q1, qP, qK, qD, qS⟩ := q; exact ⟨q0, q1, qP, va_K.moved (u := U) (U := U.calling g mk a) (Vm.Alike.refl U.vm) qK, qD, SZ.same rfl rfl qS⟩, va_recv hK hP (ci := 4) (q0 := krd) rfl e_84, fun U hU hW => ⟨rfl, by rw [hU], by rw [hU]; exact hP, va_K.moved hW.alike hK, hD.weaken (fun _ _ _ _ => trivial), hsz9.go hS hW hU hFc⟩⟩ rfl rfl hl.1 rfl (lv_room (Nat.le_of_ble_eq_true rfl)) dX4_readName_55 ⟨Nat.le_of_ble_eq_true rfl, Nat.le_of_ble_eq_true rfl⟩) hS (fun q _ h => hFc q h) hFc (fun r_132 u t H1 locs ht hvm w_133 hB hz1 hk1 hS => ?_)
    subst w_133
    obtain ⟨ws_134, ty_135, hm_136, ht_138, hP1, hK1, hD1, hx_137⟩ := hB
    rw [ht] at hP1
    have hK := va_K.moved hvm.symm hK1
    have hD := hD1.weaken (fun _ _ _ h => hFc _ h)
    generalize H1 = H at hP1 hS ⊢
    have hP := hP1
    obtain ⟨g_140, e_139, h_141⟩ := hm_136.obj e_84
    obtain ⟨z_142, z_143, z_144, z_145, z_146, z_147, rfl⟩ := smX4 h_141
    obtain ⟨g_149, e_148, h_150⟩ := hm_136.obj e_85
    obtain ⟨z_151, z_152, z_153, z_154, rfl⟩ := smX6 h_150
    obtain ⟨f_156, e_155⟩ := hm_136.arrI e_86
    have u_157 := ht_138 _ _ u_88
    have e_158 := hm_136.keep (by rw [wb_21]; omega) e_87
    have u_159 := ht_138 _ _ u_89
    have hsm := hsm.tr (hm_136.mono (by decide))
    have htx := htx.tr ht_138
    obtain ⟨rfl, hR_160⟩ := hx_137
    obtain ⟨kc_161, cc_162, tc_163, fc_164, kb_165, cb_166, tb_167, fb_168, hp_169, hT_170, er_171, et_172, wr_173, wt_174, ec_175, uc_176, wc_177, hc_178, eb_179, ub_180, wb_181, hb_182⟩ := id hR_160
    have hp_1691 := hp_169.1
    have hp_169t := teF_le (f := f9) hp_169.1
    exact W.zret (v := 0) hx hb hr rfl (fun t ht hW => ⟨⟨0, 0, rfl, rfl, ws_134, ty_135, hsm, htx, by rw [ht]; exact hP, va_K.moved hW.alike hK, hD, Or.inl ⟨rfl, Or.inr ⟨by omega, by omega, (⟨kc_161, cc_162, tc_163, fc_164, kb_165, cb_166, tb_167, fb_168, hp_169, hT_170, er_171, et_172, wr_173, wt_174, ec_175, uc_176, wc_177, hc_178, eb_179, ub_180, wb_181, hb_182⟩ : RSX ρ ws_134 ty_135 f9 rd krd tp ktp cd bb tl ts T nk fr 1 (nI (ts + 12)) vl)⟩⟩⟩, hS.F ht⟩) hS.2.2 dX4_readName_58
  refine lv_if_eq (tgt := 23) hx hb dX4_readName_15 (by decide) (fun c_183 => absurd c_183 (by decide)) (fun c_183 => ?_)
  refine lv_aload_n hx hb dX4_readName_18 rfl (lv_at hl 0 rfl) ?_
  have hFc := free_all hD hS hA
  refine va_calli (va_runV (As := []) (rest := []) ⟨hx, hb, hml, hown, hts⟩ (r_failHere l D ρ ws_79 ty_80 adK adV fo f9 rd krd tp ktp cd bb tl ts T nk fr fk fp vl  H.size htl hng (⟨kc_1, cc_2, tc_3, fc_4, kb_5, cb_6, tb_7, fb_8, hp_9, hT_10, e_84, e_85, wr_13, wt_14, e_86, u_88, wc_17, hc_18, e_87, u_89, wb_21, hb_22⟩ : RSX ρ ws_79 ty_80 f9 rd krd tp ktp cd bb tl ts T nk fr fk fp vl) ) (cwV 0 hts gX4_readName_X4_failHere rfl rfl rfl (by decide +kernel) ⟨Nat.le_of_ble_eq_true rfl, Nat.le_of_ble_eq_true rfl⟩) ⟨fun a U g mk q => by obtain ⟨q0, q1, qP, qK, qD, qS⟩ := q; exact ⟨q0, q1, qP, va_K.moved (u := U) (U := U.calling g mk a) (Vm.Alike.refl U.vm) qK, qD, SZ.same rfl rfl qS⟩, va_recv hK hP (ci := 4) (q0 := krd) rfl e_84, fun U hU hW => ⟨rfl, by rw [hU], by rw [hU]; exact hP, va_K.moved hW.alike hK, hD.weaken (fun _ _ _ _ => trivial), hsz9.go hS hW hU hFc⟩⟩ rfl rfl hl.1 rfl (lv_room (Nat.le_of_ble_eq_true rfl)) dX4_readName_19 ⟨Nat.le_of_ble_eq_true rfl, Nat.le_of_ble_eq_true rfl⟩) hS (fun q _ h => hFc q h) hFc (fun r_184 u t H1 locs ht hvm w_185 hB hz1 hk1 hS => ?_)
  subst w_185
  obtain ⟨ws_186, ty_187, hm_188, ht_190, hP1, hK1, hD1, hx_189⟩ := hB
  rw [ht] at hP1
  have hK := va_K.moved hvm.symm hK1
  have hD := hD1.weaken (fun _ _ _ h => hFc _ h)
  generalize H1 = H at hP1 hS ⊢
  have hP := hP1
  obtain ⟨g_192, e_191, h_193⟩ := hm_188.obj e_84
  obtain ⟨z_194, z_195, z_196, z_197, z_198, z_199, rfl⟩ := smX4 h_193
  obtain ⟨g_201, e_200, h_202⟩ := hm_188.obj e_85
  obtain ⟨z_203, z_204, z_205, z_206, rfl⟩ := smX6 h_202
  obtain ⟨f_208, e_207⟩ := hm_188.arrI e_86
  have u_209 := ht_190 _ _ u_88
  have e_210 := hm_188.keep (by rw [wb_21]; omega) e_87
  have u_211 := ht_190 _ _ u_89
  have hsm := hsm.tr (hm_188.mono (by decide))
  have htx := htx.tr ht_190
  obtain ⟨rfl, hR_212⟩ := hx_189
  obtain ⟨kc_213, cc_214, tc_215, fc_216, kb_217, cb_218, tb_219, fb_220, hp_221, hT_222, er_223, et_224, wr_225, wt_226, ec_227, uc_228, wc_229, hc_230, eb_231, ub_232, wb_233, hb_234⟩ := id hR_212
  have hp_2211 := hp_221.1
  have hp_221t := teF_le (f := f9) hp_221.1
  exact W.zret (v := 0) hx hb hr rfl (fun t ht hW => ⟨⟨0, 0, rfl, rfl, ws_186, ty_187, hsm, htx, by rw [ht]; exact hP, va_K.moved hW.alike hK, hD, Or.inl ⟨rfl, Or.inl ⟨by omega, (⟨kc_213, cc_214, tc_215, fc_216, kb_217, cb_218, tb_219, fb_220, hp_221, hT_222, er_223, et_224, wr_225, wt_226, ec_227, uc_228, wc_229, hc_230, eb_231, ub_232, wb_233, hb_234⟩ : RSX ρ ws_186 ty_187 f9 rd krd tp ktp cd bb tl ts T nk fr 1 (nI ts) vl)⟩⟩⟩, hS.F ht⟩) hS.2.2 dX4_readName_22
set_option maxHeartbeats 4000000 in
set_option maxRecDepth 100000 in
theorem r_addCode (l : Launch) (D : va_G) (ρ : Nat → Nat) (ws : va_W) (tys : List (ClassId × FieldType)) (adK adV : Nat → Nat) (fo : Option Nat) (f9 : Nat → Int32) (rd krd tp ktp cd bb tl ts : Nat) (T : List Tk) (nk : Int64) (fr fk fp vl : Int32) (c9 : Tk) (a1 : Int32) (sz : Nat) (htl : tl ≤ 400) (hng : ∀ i : Nat, i < tl → ¬ f9 i = -1) (R0 : RSX ρ ws tys f9 rd krd tp ktp cd bb tl ts T nk fr fk fp vl) (hc9 : a1 = enc c9) : Met l yX4_addCode wsX4_addCode ({ frames := 0, cells := 0, slots := 0, locals := 0 }) (va_Pc [.ref rd, .int a1] (fun U => U.heap.size = sz ∧ va_P D vwCl ws U.heap ∧ va_K D vwCl tys U ∧ va_D (fun _ => True) ws ∧ SZ adK adV fo (va_A ws sz) U U.heap)) (va_Qv (fun _ : Unit => True) (fun (_ : Unit) (t : State) => ∃ (ws' : va_W) (tys' : List (ClassId × FieldType)), sm ρ [4, 6] ws ws' ∧ tyx tys tys' ∧ va_P D vwCl ws' t.heap ∧ va_K D vwCl tys' t ∧ va_D (va_A ws sz) ws' ∧ ((T.length < 200 ∧ RSX ρ ws' tys' f9 rd krd tp ktp cd bb tl ts (T ++ [c9]) nk fr fk fp vl) ∨ (¬ T.length < 200 ∧ RSX ρ ws' tys' f9 rd krd tp ktp cd bb tl ts T nk fr fk fp vl))) (va_A ws sz)) 0 0 (va_A ws sz) := by
  refine Met.ofW (cc := cX4_addCode) (maxL := 2) (ret := none) (by decide) rfl ?_
  intro p e s m args below meth c s₁ B hml hv
  obtain ⟨rfl, hsz, hP, hK, hD0, hsz9⟩ := hv
  have hx := B.exec
  have hb := B.bytes
  have hr := B.returns
  have hts := atoms_spec (ws := wsX4_addCode) B.pre
  have hown : s.vm.findClass RX4 = some m.cls := findClass_of_methodNamed B.named
  have hlocks := B.notSynchronized
  subst hsz
  have hD := hD0.self (sz := s.heap.size)
  generalize hAe : va_A ws s.heap.size = A at hD hsz9 ⊢
  have hA : ∀ q : Nat, s.heap.size ≤ q → A q := fun q h => by rw [← hAe]; exact Or.inr h
  have hS : va_S A s.heap s.heap [] := va_S.rf
  have hsm : sm ρ [4, 6] ws ws := sm.rf ws
  have htx : tyx tys tys := tyx.rf tys
  have hin4 : ∀ w ∈ u_ws RX4 TX4 8, w ∈ wsX4_addCode := (fun _ h9 => List.mem_cons_of_mem _ ((List.mem_append_right _ h9)))
  have hl := lv_entry ([.ref rd, .int a1]) (n := 2) (Nat.le_of_ble_eq_true rfl)
  rw [lg_entry_eq]
  generalize (lg_sl ([.ref rd, .int a1]) ++ List.replicate (2 - (lg_sl ([.ref rd, .int a1])).length) Slot.unset).toArray = ls at hl ⊢
  have hl : lv_has ls 2 [(0, .ref rd), (1, .int a1)] := hl
  obtain ⟨kc_1, cc_2, tc_3, fc_4, kb_5, cb_6, tb_7, fb_8, hp_9, hT_10, er_11, et_12, wr_13, wt_14, ec_15, uc_16, wc_17, hc_18, eb_19, ub_20, wb_21, hb_22⟩ := id R0
  have hp_91 := hp_9.1
  have hp_9t := teF_le (f := f9) hp_9.1
  refine lv_aload_n hx hb dX4_addCode_0 rfl (lv_at hl 0 rfl) ?_
  refine va_get (D := D) (ci := 4) (v := .int (nI T.length)) (C := RX4) (T := TX4) (N := 8) hx hb hts hin4 hown hK hP krd er_11 rfl 6 (by decide) (hts (.fieldLink RX4 29 "HoneyHouse$RuleReader" "codeCount" "I") (List.mem_of_getElem? (i := 1) rfl)) (fun _ h9 => h9) rfl dX4_addCode_1 ?_
  refine lv_if_lt (tgt := 39) hx hb dX4_addCode_4 (by decide) (fun c_23 => absurd c_23 (nI_pos (n := T.length) (by omega))) (fun c_23 => ?_)
  refine lv_aload_n hx hb dX4_addCode_7 rfl (lv_at hl 0 rfl) ?_
  refine va_get (D := D) (ci := 4) (v := .int (nI T.length)) (C := RX4) (T := TX4) (N := 8) hx hb hts hin4 hown hK hP krd er_11 rfl 6 (by decide) (hts (.fieldLink RX4 29 "HoneyHouse$RuleReader" "codeCount" "I") (List.mem_of_getElem? (i := 1) rfl)) (fun _ h9 => h9) rfl dX4_addCode_8 ?_
  refine lv_aload_n hx hb dX4_addCode_11 rfl (lv_at hl 0 rfl) ?_
  refine va_get (D := D) (ci := 4) (v := .ref cd) (C := RX4) (T := TX4) (N := 8) hx hb hts hin4 hown hK hP krd er_11 rfl 5 (by decide) (hts (.fieldLink RX4 22 "HoneyHouse$RuleReader" "codes" "[I") (List.mem_of_getElem? (i := 2) rfl)) (fun _ h9 => h9) rfl dX4_addCode_12 ?_
  refine va_alen (v := 200) hx hb hK hP kc_1 tc_3 ec_15 uc_16 rfl dX4_addCode_15 ?_
  refine lv_icmp_ge (tgt := 39) hx hb dX4_addCode_16 (by decide) (fun c_24 => ?_) (fun c_24 => ?_)
  · have d_25 := n_le (a := 200) (b := T.length) (by omega) (by omega) c_24
    exact W.vret hx hb hr (fun t ht hW => ⟨⟨(), rfl, trivial, ws, tys, hsm, htx, by rw [ht]; exact hP, va_K.moved hW.alike hK, hD, Or.inr ⟨by omega, (⟨kc_1, cc_2, tc_3, fc_4, kb_5, cb_6, tb_7, fb_8, hp_9, hT_10, er_11, et_12, wr_13, wt_14, ec_15, uc_16, wc_17, hc_18, eb_19, ub_20, wb_21, hb_22⟩ : RSX ρ ws tys f9 rd krd tp ktp cd bb tl ts T nk fr fk fp vl)⟩⟩, hS.F ht⟩) hS.2.2 dX4_addCode_39
  have d_26 := n_nle (a := 200) (b := T.length) (by omega) (by omega) c_24
  refine lv_aload_n hx hb dX4_addCode_19 rfl (lv_at hl 0 rfl) ?_
  refine va_get (D := D) (ci := 4) (v := .ref cd) (C := RX4) (T := TX4) (N := 8) hx hb hts hin4 hown hK hP krd er_11 rfl 5 (by decide) (hts (.fieldLink RX4 22 "HoneyHouse$RuleReader" "codes" "[I") (List.mem_of_getElem? (i := 2) rfl)) (fun _ h9 => h9) rfl dX4_addCode_20 ?_
  refine lv_aload_n hx hb dX4_addCode_23 rfl (lv_at hl 0 rfl) ?_
  refine va_get (D := D) (ci := 4) (v := .int (nI T.length)) (C := RX4) (T := TX4) (N := 8) hx hb hts hin4 hown hK hP krd er_11 rfl 6 (by decide) (hts (.fieldLink RX4 29 "HoneyHouse$RuleReader" "codeCount" "I") (List.mem_of_getElem? (i := 1) rfl)) (fun _ h9 => h9) rfl dX4_addCode_24 ?_
  refine lv_iload_n hx hb dX4_addCode_27 rfl (lv_at hl 1 rfl) ?_
  refine va_iast (f := fc_4) (n := 200) hx hb hK hP hD hS kc_1 tc_3 ec_15 uc_16 (vp_in_nI (n := T.length) (by omega) (by omega)) dX4_addCode_28 (fun H locs hP hD hS => ?_)
  have hm_28 : sm ρ [] ws (ws.set kc_1 (cd, .inl (cc_2, 200, .inl (upd fc_4 (nI T.length).toNatClampNeg a1)))) := sm.ints ec_15 wc_17
  have e_29 : (ws.set kc_1 (cd, .inl (cc_2, 200, .inl (upd fc_4 (nI T.length).toNatClampNeg a1))))[kc_1]? = some (cd, .inl (cc_2, 200, .inl (upd fc_4 (nI T.length).toNatClampNeg a1))) := wset_self ec_15
  have e_30 := set_n (z := (cd, .inl (cc_2, 200, .inl (upd fc_4 (nI T.length).toNatClampNeg a1)))) er_11 (pl_ne er_11 ec_15 (by intro h9; simp at h9))
  have e_31 := set_n (z := (cd, .inl (cc_2, 200, .inl (upd fc_4 (nI T.length).toNatClampNeg a1)))) et_12 (pl_ne et_12 ec_15 (by intro h9; simp at h9))
  have e_32 := set_n (z := (cd, .inl (cc_2, 200, .inl (upd fc_4 (nI T.length).toNatClampNeg a1)))) eb_19 (pl_ne eb_19 ec_15 (by intro h9; simp at h9))
  generalize ws.set kc_1 (cd, .inl (cc_2, 200, .inl (upd fc_4 (nI T.length).toNatClampNeg a1))) = ws_27 at hP hD hm_28 e_29 e_30 e_31 e_32
  have hsm := hsm.tr (hm_28.mono (fun _ h9 => absurd h9 List.not_mem_nil))
  obtain ⟨f_33, hf_34⟩ : ∃ g9, g9 = upd fc_4 (nI T.length).toNatClampNeg a1 := ⟨_, rfl⟩
  rw [← hf_34] at e_29
  refine lv_aload_n hx hb dX4_addCode_29 rfl (lv_at hl 0 rfl) ?_
  refine lv_dup hx hb dX4_addCode_30 rfl ?_
  refine va_get (D := D) (ci := 4) (v := .int (nI T.length)) (C := RX4) (T := TX4) (N := 8) hx hb hts hin4 hown hK hP krd e_30 rfl 6 (by decide) (hts (.fieldLink RX4 29 "HoneyHouse$RuleReader" "codeCount" "I") (List.mem_of_getElem? (i := 1) rfl)) (fun _ h9 => h9) rfl dX4_addCode_31 ?_
  refine lv_iconst (v := 1) hx hb dX4_addCode_34 (by decide) ?_
  refine lv_iadd hx hb dX4_addCode_35 ?_
  refine tp_i (y := nI (T.length + 1)) (nI_add T.length 1) ?_
  refine va_put (D := D) (ci := 4) (v := .int (nI (T.length + 1))) (ty := .int) (C := RX4) (T := TX4) (N := 8) hx hb hts hin4 tyX4 tyX4_ok nmX4 hown hK hP hD hS krd e_30 rfl 6 (by decide) (hts (.fieldLink RX4 29 "HoneyHouse$RuleReader" "codeCount" "I") (List.mem_of_getElem? (i := 1) rfl)) (fun _ h9 => h9) rfl (tyX4_ok 6 (by decide)) rfl rfl (Nat.le_of_ble_eq_true rfl) dX4_addCode_36 (fun H locs hP hD hS => ?_)
  have hP : va_P D vwCl (ws_27.set krd (rd, .inr (4, [.ref tp, .long nk, .int fr, .int fk, .int fp, .ref cd, .int (nI (T.length + 1)), .int vl]))) H := hP
  have hD : va_D A (ws_27.set krd (rd, .inr (4, [.ref tp, .long nk, .int fr, .int fk, .int fp, .ref cd, .int (nI (T.length + 1)), .int vl]))) := hD
  have hm_36 : sm ρ [4] ws_27 (ws_27.set krd (rd, .inr (4, [.ref tp, .long nk, .int fr, .int fk, .int fp, .ref cd, .int (nI (T.length + 1)), .int vl]))) := sm.flds e_30 (smF.c (smV.rf _) (smF.c (smV.rf _) (smF.c (smV.rf _) (smF.c (smV.rf _) (smF.c (smV.rf _) (smF.c (smV.rf _) (smF.c (smV.i _ _) (smF.c (smV.rf _) (rfl))))))))) (List.mem_singleton.mpr rfl) wr_13
  have e_37 : (ws_27.set krd (rd, .inr (4, [.ref tp, .long nk, .int fr, .int fk, .int fp, .ref cd, .int (nI (T.length + 1)), .int vl])))[krd]? = some (rd, .inr (4, [.ref tp, .long nk, .int fr, .int fk, .int fp, .ref cd, .int (nI (T.length + 1)), .int vl])) := wset_self e_30
  have e_38 := set_n (z := (rd, .inr (4, [.ref tp, .long nk, .int fr, .int fk, .int fp, .ref cd, .int (nI (T.length + 1)), .int vl]))) e_31 (pl_ne e_31 e_30 (by intro h9; simp at h9))
  have e_39 := set_n (z := (rd, .inr (4, [.ref tp, .long nk, .int fr, .int fk, .int fp, .ref cd, .int (nI (T.length + 1)), .int vl]))) e_29 (pl_ne e_29 e_30 (by intro h9; simp at h9))
  have e_40 := set_n (z := (rd, .inr (4, [.ref tp, .long nk, .int fr, .int fk, .int fp, .ref cd, .int (nI (T.length + 1)), .int vl]))) e_32 (pl_ne e_32 e_30 (by intro h9; simp at h9))
  generalize ws_27.set krd (rd, .inr (4, [.ref tp, .long nk, .int fr, .int fk, .int fp, .ref cd, .int (nI (T.length + 1)), .int vl])) = ws_35 at hP hD hm_36 e_37 e_38 e_39 e_40
  have hsm := hsm.tr (hm_36.mono (by decide))
  exact W.vret hx hb hr (fun t ht hW => ⟨⟨(), rfl, trivial, ws_35, tys, hsm, htx, by rw [ht]; exact hP, va_K.moved hW.alike hK, hD, Or.inl ⟨by omega, (⟨kc_1, cc_2, tc_3, f_33, kb_5, cb_6, tb_7, fb_8, hp_9, (by rw [len_a1]; omega), (by rw [len_a1]; exact e_37), e_38, wr_13, wt_14, e_39, uc_16, wc_17, (cd_add hc9 hc_18 (by rw [hf_34, nI_clamp (n := T.length) (by omega)])), e_40, ub_20, wb_21, hb_22⟩ : RSX ρ ws_35 tys f9 rd krd tp ktp cd bb tl ts (T ++ [c9]) nk fr fk fp vl)⟩⟩, hS.F ht⟩) hS.2.2 dX4_addCode_39
set_option maxHeartbeats 4000000 in
set_option maxRecDepth 100000 in
theorem s_testCode0 (l : Launch) (w9 v9 : Nat) : Met l yX4_testCode wsX4_testCode ({ frames := 0, cells := 0, slots := 0, locals := 0 }) (va_Pc [.int (nI w9), .int 0, .int (nI v9)] (fun _ => True)) (vp_Si (fun r => r = enc (13, w9, 9, v9))) 0 0 (fun _ => False) := by
  refine Met.ofW (cc := cX4_testCode) (maxL := 3) (ret := (some .int)) (by decide) rfl ?_
  intro p e s m args below meth c s₁ B hml hv
  obtain ⟨rfl, -⟩ := hv
  have hx := B.exec
  have hb := B.bytes
  have hr := B.returns
  have hts := atoms_spec (ws := wsX4_testCode) B.pre
  have hown : s.vm.findClass RX4 = some m.cls := findClass_of_methodNamed B.named
  have hlocks := B.notSynchronized
  have hl := lv_entry ([.int (nI w9), .int 0, .int (nI v9)]) (n := 3) (Nat.le_of_ble_eq_true rfl)
  rw [lg_entry_eq]
  generalize (lg_sl ([.int (nI w9), .int 0, .int (nI v9)]) ++ List.replicate (3 - (lg_sl ([.int (nI w9), .int 0, .int (nI v9)])).length) Slot.unset).toArray = ls at hl ⊢
  have hl : lv_has ls 3 [(0, .int (nI w9)), (1, .int 0), (2, .int (nI v9))] := hl
  refine lv_iload_n hx hb dX4_testCode_0 rfl (lv_at hl 0 rfl) ?_
  refine lv_iconst (v := 2) hx hb dX4_testCode_1 (by decide) ?_
  refine lv_imul hx hb dX4_testCode_2 ?_
  refine lv_iload_n hx hb dX4_testCode_3 rfl (lv_at hl 1 rfl) ?_
  refine lv_if_eq (tgt := 11) hx hb dX4_testCode_4 (by decide) (fun c_1 => ?_) (fun c_1 => absurd (by decide) c_1)
  refine lv_iconst (v := 0) hx hb dX4_testCode_11 (by decide) ?_
  refine lv_iadd hx hb dX4_testCode_12 ?_
  refine lv_bipush (v := 10) hx hb dX4_testCode_13 (by decide) ?_
  refine lv_ishl hx hb dX4_testCode_15 ?_
  refine lv_iload_n hx hb dX4_testCode_16 rfl (lv_at hl 2 rfl) ?_
  refine lv_iadd hx hb dX4_testCode_17 ?_
  exact W.iret (v := ((((nI w9) * 2) + 0) <<< (10 &&& 31)) + (nI v9)) hx hb hr (fun t ht hW => ⟨((((nI w9) * 2) + 0) <<< (10 &&& 31)) + (nI v9), rfl, (tcode (w := w9) (v := v9) (y := 0) rfl), ht⟩) (fun _ h9 => by cases h9) dX4_testCode_18
set_option maxHeartbeats 4000000 in
set_option maxRecDepth 100000 in
theorem s_testCode1 (l : Launch) (w9 v9 : Nat) : Met l yX4_testCode wsX4_testCode ({ frames := 0, cells := 0, slots := 0, locals := 0 }) (va_Pc [.int (nI w9), .int 1, .int (nI v9)] (fun _ => True)) (vp_Si (fun r => r = enc (13, w9, 10, v9))) 0 0 (fun _ => False) := by
  refine Met.ofW (cc := cX4_testCode) (maxL := 3) (ret := (some .int)) (by decide) rfl ?_
  intro p e s m args below meth c s₁ B hml hv
  obtain ⟨rfl, -⟩ := hv
  have hx := B.exec
  have hb := B.bytes
  have hr := B.returns
  have hts := atoms_spec (ws := wsX4_testCode) B.pre
  have hown : s.vm.findClass RX4 = some m.cls := findClass_of_methodNamed B.named
  have hlocks := B.notSynchronized
  have hl := lv_entry ([.int (nI w9), .int 1, .int (nI v9)]) (n := 3) (Nat.le_of_ble_eq_true rfl)
  rw [lg_entry_eq]
  generalize (lg_sl ([.int (nI w9), .int 1, .int (nI v9)]) ++ List.replicate (3 - (lg_sl ([.int (nI w9), .int 1, .int (nI v9)])).length) Slot.unset).toArray = ls at hl ⊢
  have hl : lv_has ls 3 [(0, .int (nI w9)), (1, .int 1), (2, .int (nI v9))] := hl
  refine lv_iload_n hx hb dX4_testCode_0 rfl (lv_at hl 0 rfl) ?_
  refine lv_iconst (v := 2) hx hb dX4_testCode_1 (by decide) ?_
  refine lv_imul hx hb dX4_testCode_2 ?_
  refine lv_iload_n hx hb dX4_testCode_3 rfl (lv_at hl 1 rfl) ?_
  refine lv_if_eq (tgt := 11) hx hb dX4_testCode_4 (by decide) (fun c_1 => absurd c_1 (by decide)) (fun c_1 => ?_)
  refine lv_iconst (v := 1) hx hb dX4_testCode_7 (by decide) ?_
  refine lv_goto (tgt := 12) hx hb dX4_testCode_8 (by decide) ?_
  refine lv_iadd hx hb dX4_testCode_12 ?_
  refine lv_bipush (v := 10) hx hb dX4_testCode_13 (by decide) ?_
  refine lv_ishl hx hb dX4_testCode_15 ?_
  refine lv_iload_n hx hb dX4_testCode_16 rfl (lv_at hl 2 rfl) ?_
  refine lv_iadd hx hb dX4_testCode_17 ?_
  exact W.iret (v := ((((nI w9) * 2) + 1) <<< (10 &&& 31)) + (nI v9)) hx hb hr (fun t ht hW => ⟨((((nI w9) * 2) + 1) <<< (10 &&& 31)) + (nI v9), rfl, (tcode (w := w9) (v := v9) (y := 1) rfl), ht⟩) (fun _ h9 => by cases h9) dX4_testCode_18
set_option maxHeartbeats 4000000 in
set_option maxRecDepth 100000 in
theorem r_readTest (l : Launch) (D : va_G) (ρ : Nat → Nat) (ws : va_W) (tys : List (ClassId × FieldType)) (adK adV : Nat → Nat) (fo : Option Nat) (f9 : Nat → Int32) (rd krd tp ktp cd bb tl ts : Nat) (T : List Tk) (nk : Int64) (fr fk fp vl : Int32)  (sz : Nat) (htl : tl ≤ 400) (hng : ∀ i : Nat, i < tl → ¬ f9 i = -1) (R0 : RSX ρ ws tys f9 rd krd tp ktp cd bb tl ts T nk fr fk fp vl) (hT2 : 2 * T.length ≤ ts) : Met l yX4_readTest wsX4_readTest ({ frames := 6, cells := 0, slots := 0, locals := 127 }) (va_Pc [.ref rd] (fun U => U.heap.size = sz ∧ va_P D vwCl ws U.heap ∧ va_K D vwCl tys U ∧ va_D (fun _ => True) ws ∧ SZ adK adV fo (va_A ws sz) U U.heap)) (va_Qi (fun (r : Int32) (s9 : Int32) => r = s9) (fun (s9 : Int32) (t : State) => ∃ (ws' : va_W) (tys' : List (ClassId × FieldType)), sm ρ [4, 6] ws ws' ∧ tyx tys tys' ∧ va_P D vwCl ws' t.heap ∧ va_K D vwCl tys' t ∧ va_D (va_A ws sz) ws' ∧ (∃ k p w m v : Nat, tstR f9 tl ts k p w m v ∧ ((s9 = 0 ∧ ¬ k = 0 ∧ k ≤ 2 ∧ ∃ (ts9 : Nat) (vl9 : Int32), RSX ρ ws' tys' f9 rd krd tp ktp cd bb tl ts9 T nk fr (nI k) (nI p) vl9) ∨ (s9 = 1 ∧ k = 0 ∧ ts + 4 ≤ p ∧ ∃ vl9 : Int32, RSX ρ ws' tys' f9 rd krd tp ktp cd bb tl p (T ++ [(13, w, m, v)]) nk fr fk fp vl9)))) (va_A ws sz)) 0 0 (va_A ws sz) := by
  refine Met.ofW (cc := cX4_readTest) (maxL := 3) (ret := (some .boolean)) (by decide) rfl ?_
  intro p e s m args below meth c s₁ B hml hv
  obtain ⟨rfl, hsz, hP, hK, hD0, hsz9⟩ := hv
  have hx := B.exec
  have hb := B.bytes
  have hr := B.returns
  have hts := atoms_spec (ws := wsX4_readTest) B.pre
  have hown : s.vm.findClass RX4 = some m.cls := findClass_of_methodNamed B.named
  have hlocks := B.notSynchronized
  subst hsz
  have hD := hD0.self (sz := s.heap.size)
  generalize hAe : va_A ws s.heap.size = A at hD hsz9 ⊢
  have hA : ∀ q : Nat, s.heap.size ≤ q → A q := fun q h => by rw [← hAe]; exact Or.inr h
  have hS : va_S A s.heap s.heap [] := va_S.rf
  have hsm : sm ρ [4, 6] ws ws := sm.rf ws
  have htx : tyx tys tys := tyx.rf tys
  have hin4 : ∀ w ∈ u_ws RX4 TX4 8, w ∈ wsX4_readTest := (fun _ h9 => List.mem_cons_of_mem _ (List.mem_append_left _ ((List.mem_append_right _ h9))))
  have hl := lv_entry ([.ref rd]) (n := 3) (Nat.le_of_ble_eq_true rfl)
  rw [lg_entry_eq]
  generalize (lg_sl ([.ref rd]) ++ List.replicate (3 - (lg_sl ([.ref rd])).length) Slot.unset).toArray = ls at hl ⊢
  have hl : lv_has ls 3 [(0, .ref rd)] := hl
  obtain ⟨kc_1, cc_2, tc_3, fc_4, kb_5, cb_6, tb_7, fb_8, hp_9, hT_10, er_11, et_12, wr_13, wt_14, ec_15, uc_16, wc_17, hc_18, eb_19, ub_20, wb_21, hb_22⟩ := id R0
  have hp_91 := hp_9.1
  have hp_9t := teF_le (f := f9) hp_9.1
  refine lv_aload_n hx hb dX4_readTest_0 rfl (lv_at hl 0 rfl) ?_
  have hFc := free_all hD hS hA
  refine va_calli (va_runV (As := []) (rest := []) ⟨hx, hb, hml, hown, hts⟩ (r_measureNamed l D (rz []) ws tys adK adV fo f9 rd krd tp ktp cd tl ts nk fr fk fp (nI T.length) vl bb kb_5 cb_6 tb_7 fb_8 s.heap.size er_11 htl hb_22 hng hp_9 et_12 eb_19 ub_20 rz_o0) (cwV 0 hts gX4_readTest_X4_measureNamed rfl rfl rfl (by decide +kernel) ⟨Nat.le_of_ble_eq_true rfl, Nat.le_of_ble_eq_true rfl⟩) ⟨fun a U g mk q => by obtain ⟨q0, q1, qP, qK, qD, qS⟩ := q; exact ⟨q0, q1, qP, va_K.moved (u := U) (U := U.calling g mk a) (Vm.Alike.refl U.vm) qK, qD, SZ.same rfl rfl qS⟩, va_recv hK hP (ci := 4) (q0 := krd) rfl er_11, fun U hU hW => ⟨rfl, by rw [hU], by rw [hU]; exact hP, va_K.moved hW.alike hK, hD.weaken (fun _ _ _ _ => trivial), hsz9.go hS hW hU hFc⟩⟩ rfl rfl hl.1 rfl (lv_room (Nat.le_of_ble_eq_true rfl)) dX4_readTest_1 ⟨Nat.le_of_ble_eq_true rfl, Nat.le_of_ble_eq_true rfl⟩) hS (fun q _ h => hFc q h) hFc (fun r_23 u t H1 locs ht hvm w_24 hB hz1 hk1 hS => ?_)
  obtain ⟨ws_25, ty_26, hm_27, ht_29, hP1, hK1, hD1, hx_28⟩ := hB
  rw [ht] at hP1
  have hK := va_K.moved hvm.symm hK1
  have hD := hD1.weaken (fun _ _ _ h => hFc _ h)
  generalize H1 = H at hP1 hS ⊢
  have hP := hP1
  have e_30 := hm_27.keep rz_o0 er_11
  have e_31 := hm_27.keep rz_o0 et_12
  have e_32 := hm_27.keep rz_o0 ec_15
  have e_33 := hm_27.keep rz_o0 eb_19
  have u_34 := ht_29 _ _ uc_16
  have u_35 := ht_29 _ _ ub_20
  have hm_36 : sm ρ [] ws ws_25 := hm_27.up (fun k _ h => rz_u0  k h)
  have hsm := hsm.tr (hm_36.mono (by decide))
  have htx := htx.tr ht_29
  rcases w_24 with ⟨mn_37, rfl⟩ | ⟨mn_37, rfl⟩ | ⟨mn_37, rfl⟩ | ⟨mn_37, rfl⟩ | ⟨mn_37, rfl⟩ | ⟨mn_37, rfl⟩
  · refine lv_istore_n (lv' := [(1, .int 0), (0, .ref rd)]) hx hb dX4_readTest_4 rfl hl (by decide) rfl (fun ls hl => ?_)
    refine lv_iload_n hx hb dX4_readTest_5 rfl (lv_at hl 0 rfl) ?_
    refine lv_iconst (v := (-1)) hx hb dX4_readTest_6 (by decide) ?_
    refine lv_icmp_ne (tgt := 15) hx hb dX4_readTest_7 (by decide) (fun c_38 => ?_) (fun c_38 => absurd c_38 (by decide))
    refine lv_aload_n hx hb dX4_readTest_15 rfl (lv_at hl 1 rfl) ?_
    refine va_get (D := D) (ci := 4) (v := .ref tp) (C := RX4) (T := TX4) (N := 8) hx hb hts hin4 hown hK hP krd e_30 rfl 0 (by decide) (hts (.fieldLink RX4 12 "HoneyHouse$RuleReader" "tape" "LHoneyHouse$Tape;") (List.mem_of_getElem? (i := 1) rfl)) (fun _ h9 => h9) rfl dX4_readTest_16 ?_
    have hFc := free_all hD hS hA
    refine va_callv (va_runV (As := []) (rest := []) ⟨hx, hb, hml, hown, hts⟩ (a_advance l D (rz [ktp]) ws_25 ty_26 f9 tp ktp tl (teF f9 tl ts) (nI (kdF f9 tl ts)) (nI ts) bb kb_5 cb_6 tb_7 fb_8 H.size htl hb_22 hng (by omega) e_31 e_33 u_35 (rz_o1 (pl_ne e_33 e_31 (by intro h9; simp at h9))) (rz_in (by simp))) (cwV 0 hts gX4_readTest_X6_advance rfl rfl rfl (by decide +kernel) ⟨Nat.le_of_ble_eq_true rfl, Nat.le_of_ble_eq_true rfl⟩) ⟨fun a U g mk q => by obtain ⟨q0, q1, qP, qK, qD⟩ := q; exact ⟨q0, q1, qP, va_K.moved (u := U) (U := U.calling g mk a) (Vm.Alike.refl U.vm) qK, qD⟩, va_recv hK hP (ci := 6) (q0 := ktp) rfl e_31, fun U hU hW => ⟨rfl, by rw [hU], by rw [hU]; exact hP, va_K.moved hW.alike hK, hD.weaken (fun _ _ _ _ => trivial)⟩⟩ rfl rfl hl.1 rfl (lv_room (Nat.le_of_ble_eq_true rfl)) dX4_readTest_19 ⟨Nat.le_of_ble_eq_true rfl, Nat.le_of_ble_eq_true rfl⟩) hS (fun q _ h => hFc q h) hFc (fun u t H1 locs ht hvm w_40 hB hz1 hk1 hS => ?_)
    obtain ⟨ws_41, ty_42, hm_43, ht_45, hP1, hK1, hD1, hx_44⟩ := hB
    rw [ht] at hP1
    have hK := va_K.moved hvm.symm hK1
    have hD := hD1.weaken (fun _ _ _ h => hFc _ h)
    generalize H1 = H at hP1 hS ⊢
    have hP := hP1
    have e_46 := hm_43.keep (rz_o1 (pl_ne e_30 e_31 (by intro h9; simp at h9))) e_30
    have e_47 := hm_43.keep (rz_o1 (pl_ne e_32 e_31 (by intro h9; simp at h9))) e_32
    have e_48 := hm_43.keep (rz_o1 (pl_ne e_33 e_31 (by intro h9; simp at h9))) e_33
    have u_49 := ht_45 _ _ u_34
    have u_50 := ht_45 _ _ u_35
    have hm_51 : sm ρ [6] ws_25 ws_41 := hm_43.up (fun k _ h => rz_u1 wt_14 k h)
    have hsm := hsm.tr (hm_51.mono (by decide))
    have htx := htx.tr ht_45
    have e_52 : ws_41[ktp]? = some (tp, .inr (6, [.int (nI tl), .int (nI (kdF f9 tl (nxF f9 tl ts))), .int (nI (nxF f9 tl ts)), .int (nI (teF f9 tl (nxF f9 tl ts))), .ref bb])) := hx_44; have hq_53 : pcB f9 tl (nxF f9 tl ts) := nxF_pc (f := f9) hp_9.1; have hq_531 := hq_53.1; have hq_53t := teF_le (f := f9) hq_53.1; have hg_54 := nx_gain (f := f9) hp_9.1
    refine lv_iload_n hx hb dX4_readTest_22 rfl (lv_at hl 0 rfl) ?_
    refine lv_bipush (v := 10) hx hb dX4_readTest_23 (by decide) ?_
    refine lv_icmp_eq (tgt := 34) hx hb dX4_readTest_25 (by decide) (fun c_55 => absurd c_55 (by decide)) (fun c_55 => ?_)
    refine lv_iload_n hx hb dX4_readTest_28 rfl (lv_at hl 0 rfl) ?_
    refine lv_bipush (v := 30) hx hb dX4_readTest_29 (by decide) ?_
    refine lv_icmp_ne (tgt := 61) hx hb dX4_readTest_31 (by decide) (fun c_56 => ?_) (fun c_56 => absurd c_56 (by decide))
    refine lv_aload_n hx hb dX4_readTest_61 rfl (lv_at hl 1 rfl) ?_
    refine va_get (D := D) (ci := 4) (v := .ref tp) (C := RX4) (T := TX4) (N := 8) hx hb hts hin4 hown hK hP krd e_46 rfl 0 (by decide) (hts (.fieldLink RX4 12 "HoneyHouse$RuleReader" "tape" "LHoneyHouse$Tape;") (List.mem_of_getElem? (i := 1) rfl)) (fun _ h9 => h9) rfl dX4_readTest_62 ?_
    refine va_ldcS hx hb hown hsz9.2.2.2.2.2.2.2.2.1 dX4_readTest_65 ?_
    have hFc := free_all hD hS hA
    refine va_calli (va_runV (As := [.ref (adK 5)]) (rest := []) ⟨hx, hb, hml, hown, hts⟩ (a_isWord l D (rz []) ws_41 ty_42 adK adV fo 5 f9 tp ktp tl (nxF f9 tl ts) bb kb_5 cb_6 tb_7 fb_8 H.size (by decide) htl hb_22 hng hq_53 e_52 e_48 u_50 rz_o0) (cwV 1 hts gX4_readTest_X6_isWord rfl rfl rfl (by decide +kernel) ⟨Nat.le_of_ble_eq_true rfl, Nat.le_of_ble_eq_true rfl⟩) ⟨fun a U g mk q => by obtain ⟨q0, q1, qP, qK, qD, qS⟩ := q; exact ⟨q0, q1, qP, va_K.moved (u := U) (U := U.calling g mk a) (Vm.Alike.refl U.vm) qK, qD, SZ.same rfl rfl qS⟩, va_recv hK hP (ci := 6) (q0 := ktp) rfl e_52, fun U hU hW => ⟨rfl, by rw [hU], by rw [hU]; exact hP, va_K.moved hW.alike hK, hD.weaken (fun _ _ _ _ => trivial), hsz9.go hS hW hU hFc⟩⟩ rfl rfl hl.1 rfl (lv_room (Nat.le_of_ble_eq_true rfl)) dX4_readTest_67 ⟨Nat.le_of_ble_eq_true rfl, Nat.le_of_ble_eq_true rfl⟩) hS (fun q _ h => hFc q h) hFc (fun r_57 u t H1 locs ht hvm w_58 hB hz1 hk1 hS => ?_)
    obtain ⟨ws_59, ty_60, hm_61, ht_63, hP1, hK1, hD1, hx_62⟩ := hB
    rw [ht] at hP1
    have hK := va_K.moved hvm.symm hK1
    have hD := hD1.weaken (fun _ _ _ h => hFc _ h)
    generalize H1 = H at hP1 hS ⊢
    have hP := hP1
    have e_64 := hm_61.keep rz_o0 e_46
    have e_65 := hm_61.keep rz_o0 e_52
    have e_66 := hm_61.keep rz_o0 e_47
    have e_67 := hm_61.keep rz_o0 e_48
    have u_68 := ht_63 _ _ u_49
    have u_69 := ht_63 _ _ u_50
    have hm_70 : sm ρ [] ws_41 ws_59 := hm_61.up (fun k _ h => rz_u0  k h)
    have hsm := hsm.tr (hm_70.mono (by decide))
    have htx := htx.tr ht_63
    rcases w_58 with ⟨rfl, iw_71⟩ | ⟨rfl, iw_71⟩
    · have iw_71 : ¬ wdE f9 tl (nxF f9 tl ts) = 10 := iw_71
      refine lv_istore_n (lv' := [(2, .int 0), (1, .int 0), (0, .ref rd)]) hx hb dX4_readTest_70 rfl hl (by decide) rfl (fun ls hl => ?_)
      refine lv_iload_n hx hb dX4_readTest_71 rfl (lv_at hl 0 rfl) ?_
      refine lv_if_ne (tgt := 92) hx hb dX4_readTest_72 (by decide) (fun c_72 => absurd (by decide) c_72) (fun c_72 => ?_)
      refine lv_aload_n hx hb dX4_readTest_75 rfl (lv_at hl 2 rfl) ?_
      refine va_get (D := D) (ci := 4) (v := .ref tp) (C := RX4) (T := TX4) (N := 8) hx hb hts hin4 hown hK hP krd e_64 rfl 0 (by decide) (hts (.fieldLink RX4 12 "HoneyHouse$RuleReader" "tape" "LHoneyHouse$Tape;") (List.mem_of_getElem? (i := 1) rfl)) (fun _ h9 => h9) rfl dX4_readTest_76 ?_
      refine va_ldcS hx hb hown hsz9.2.2.2.2.2.2.2.1 dX4_readTest_79 ?_
      have hFc := free_all hD hS hA
      refine va_calli (va_runV (As := [.ref (adK 4)]) (rest := []) ⟨hx, hb, hml, hown, hts⟩ (a_isWord l D (rz []) ws_59 ty_60 adK adV fo 4 f9 tp ktp tl (nxF f9 tl ts) bb kb_5 cb_6 tb_7 fb_8 H.size (by decide) htl hb_22 hng hq_53 e_65 e_67 u_69 rz_o0) (cwV 1 hts gX4_readTest_X6_isWord rfl rfl rfl (by decide +kernel) ⟨Nat.le_of_ble_eq_true rfl, Nat.le_of_ble_eq_true rfl⟩) ⟨fun a U g mk q => by obtain ⟨q0, q1, qP, qK, qD, qS⟩ := q; exact ⟨q0, q1, qP, va_K.moved (u := U) (U := U.calling g mk a) (Vm.Alike.refl U.vm) qK, qD, SZ.same rfl rfl qS⟩, va_recv hK hP (ci := 6) (q0 := ktp) rfl e_65, fun U hU hW => ⟨rfl, by rw [hU], by rw [hU]; exact hP, va_K.moved hW.alike hK, hD.weaken (fun _ _ _ _ => trivial), hsz9.go hS hW hU hFc⟩⟩ rfl rfl hl.1 rfl (lv_room (Nat.le_of_ble_eq_true rfl)) dX4_readTest_81 ⟨Nat.le_of_ble_eq_true rfl, Nat.le_of_ble_eq_true rfl⟩) hS (fun q _ h => hFc q h) hFc (fun r_73 u t H1 locs ht hvm w_74 hB hz1 hk1 hS => ?_)
      obtain ⟨ws_75, ty_76, hm_77, ht_79, hP1, hK1, hD1, hx_78⟩ := hB
      rw [ht] at hP1
      have hK := va_K.moved hvm.symm hK1
      have hD := hD1.weaken (fun _ _ _ h => hFc _ h)
      generalize H1 = H at hP1 hS ⊢
      have hP := hP1
      have e_80 := hm_77.keep rz_o0 e_64
      have e_81 := hm_77.keep rz_o0 e_65
      have e_82 := hm_77.keep rz_o0 e_66
      have e_83 := hm_77.keep rz_o0 e_67
      have u_84 := ht_79 _ _ u_68
      have u_85 := ht_79 _ _ u_69
      have hm_86 : sm ρ [] ws_59 ws_75 := hm_77.up (fun k _ h => rz_u0  k h)
      have hsm := hsm.tr (hm_86.mono (by decide))
      have htx := htx.tr ht_79
      rcases w_74 with ⟨rfl, iw_87⟩ | ⟨rfl, iw_87⟩
      · have iw_87 : ¬ wdE f9 tl (nxF f9 tl ts) = 9 := iw_87
        refine lv_if_ne (tgt := 92) hx hb dX4_readTest_84 (by decide) (fun c_88 => absurd (by decide) c_88) (fun c_88 => ?_)
        refine lv_aload_n hx hb dX4_readTest_87 rfl (lv_at hl 2 rfl) ?_
        have hFc := free_all hD hS hA
        refine va_calli (va_runV (As := []) (rest := []) ⟨hx, hb, hml, hown, hts⟩ (r_failHere l D ρ ws_75 ty_76 adK adV fo f9 rd krd tp ktp cd bb tl (nxF f9 tl ts) T nk fr fk fp vl  H.size htl hng (⟨kc_1, cc_2, tc_3, fc_4, kb_5, cb_6, tb_7, fb_8, hq_53, hT_10, e_80, e_81, wr_13, wt_14, e_82, u_84, wc_17, hc_18, e_83, u_85, wb_21, hb_22⟩ : RSX ρ ws_75 ty_76 f9 rd krd tp ktp cd bb tl (nxF f9 tl ts) T nk fr fk fp vl) ) (cwV 0 hts gX4_readTest_X4_failHere rfl rfl rfl (by decide +kernel) ⟨Nat.le_of_ble_eq_true rfl, Nat.le_of_ble_eq_true rfl⟩) ⟨fun a U g mk q => by obtain ⟨q0, q1, qP, qK, qD, qS⟩ := q; exact ⟨q0, q1, qP, va_K.moved (u := U) (U := U.calling g mk a) (Vm.Alike.refl U.vm) qK, qD, SZ.same rfl rfl qS⟩, va_recv hK hP (ci := 4) (q0 := krd) rfl e_80, fun U hU hW => ⟨rfl, by rw [hU], by rw [hU]; exact hP, va_K.moved hW.alike hK, hD.weaken (fun _ _ _ _ => trivial), hsz9.go hS hW hU hFc⟩⟩ rfl rfl hl.1 rfl (lv_room (Nat.le_of_ble_eq_true rfl)) dX4_readTest_88 ⟨Nat.le_of_ble_eq_true rfl, Nat.le_of_ble_eq_true rfl⟩) hS (fun q _ h => hFc q h) hFc (fun r_89 u t H1 locs ht hvm w_90 hB hz1 hk1 hS => ?_)
        subst w_90
        obtain ⟨ws_91, ty_92, hm_93, ht_95, hP1, hK1, hD1, hx_94⟩ := hB
        rw [ht] at hP1
        have hK := va_K.moved hvm.symm hK1
        have hD := hD1.weaken (fun _ _ _ h => hFc _ h)
        generalize H1 = H at hP1 hS ⊢
        have hP := hP1
        obtain ⟨g_97, e_96, h_98⟩ := hm_93.obj e_80
        obtain ⟨z_99, z_100, z_101, z_102, z_103, z_104, rfl⟩ := smX4 h_98
        obtain ⟨g_106, e_105, h_107⟩ := hm_93.obj e_81
        obtain ⟨z_108, z_109, z_110, z_111, rfl⟩ := smX6 h_107
        obtain ⟨f_113, e_112⟩ := hm_93.arrI e_82
        have u_114 := ht_95 _ _ u_84
        have e_115 := hm_93.keep (by rw [wb_21]; omega) e_83
        have u_116 := ht_95 _ _ u_85
        have hsm := hsm.tr (hm_93.mono (by decide))
        have htx := htx.tr ht_95
        obtain ⟨rfl, hR_117⟩ := hx_94
        obtain ⟨kc_118, cc_119, tc_120, fc_121, kb_122, cb_123, tb_124, fb_125, hp_126, hT_127, er_128, et_129, wr_130, wt_131, ec_132, uc_133, wc_134, hc_135, eb_136, ub_137, wb_138, hb_139⟩ := id hR_117
        have hp_1261 := hp_126.1
        have hp_126t := teF_le (f := f9) hp_126.1
        exact W.zret (v := 0) hx hb hr rfl (fun t ht hW => ⟨⟨0, 0, rfl, rfl, ws_91, ty_92, hsm, htx, by rw [ht]; exact hP, va_K.moved hW.alike hK, hD, ⟨1, nxF f9 tl ts, 0, 0, 0, Or.inr ⟨nxF f9 tl ts, (Or.inr (Or.inl ⟨by omega, by omega, rfl, rfl, by omega⟩) : whtR f9 tl ts 0 (nxF f9 tl ts) 0), Or.inl ⟨by omega, rfl, rfl⟩⟩, Or.inl ⟨rfl, by omega, by omega, _, _, (⟨kc_118, cc_119, tc_120, fc_121, kb_122, cb_123, tb_124, fb_125, hp_126, hT_127, er_128, et_129, wr_130, wt_131, ec_132, uc_133, wc_134, hc_135, eb_136, ub_137, wb_138, hb_139⟩ : RSX ρ ws_91 ty_92 f9 rd krd tp ktp cd bb tl (nxF f9 tl ts) T nk fr 1 (nI (nxF f9 tl ts)) vl)⟩⟩⟩, hS.F ht⟩) hS.2.2 dX4_readTest_91
      have iw_87 : wdE f9 tl (nxF f9 tl ts) = 9 := iw_87
      refine lv_if_ne (tgt := 92) hx hb dX4_readTest_84 (by decide) (fun c_140 => ?_) (fun c_140 => absurd c_140 (by decide))
      refine lv_aload_n hx hb dX4_readTest_92 rfl (lv_at hl 2 rfl) ?_
      refine va_get (D := D) (ci := 4) (v := .ref tp) (C := RX4) (T := TX4) (N := 8) hx hb hts hin4 hown hK hP krd e_80 rfl 0 (by decide) (hts (.fieldLink RX4 12 "HoneyHouse$RuleReader" "tape" "LHoneyHouse$Tape;") (List.mem_of_getElem? (i := 1) rfl)) (fun _ h9 => h9) rfl dX4_readTest_93 ?_
      have hFc := free_all hD hS hA
      refine va_callv (va_runV (As := []) (rest := []) ⟨hx, hb, hml, hown, hts⟩ (a_advance l D (rz [ktp]) ws_75 ty_76 f9 tp ktp tl (teF f9 tl (nxF f9 tl ts)) (nI (kdF f9 tl (nxF f9 tl ts))) (nI (nxF f9 tl ts)) bb kb_5 cb_6 tb_7 fb_8 H.size htl hb_22 hng (by omega) e_81 e_83 u_85 (rz_o1 (pl_ne e_83 e_81 (by intro h9; simp at h9))) (rz_in (by simp))) (cwV 0 hts gX4_readTest_X6_advance rfl rfl rfl (by decide +kernel) ⟨Nat.le_of_ble_eq_true rfl, Nat.le_of_ble_eq_true rfl⟩) ⟨fun a U g mk q => by obtain ⟨q0, q1, qP, qK, qD⟩ := q; exact ⟨q0, q1, qP, va_K.moved (u := U) (U := U.calling g mk a) (Vm.Alike.refl U.vm) qK, qD⟩, va_recv hK hP (ci := 6) (q0 := ktp) rfl e_81, fun U hU hW => ⟨rfl, by rw [hU], by rw [hU]; exact hP, va_K.moved hW.alike hK, hD.weaken (fun _ _ _ _ => trivial)⟩⟩ rfl rfl hl.1 rfl (lv_room (Nat.le_of_ble_eq_true rfl)) dX4_readTest_96 ⟨Nat.le_of_ble_eq_true rfl, Nat.le_of_ble_eq_true rfl⟩) hS (fun q _ h => hFc q h) hFc (fun u t H1 locs ht hvm w_142 hB hz1 hk1 hS => ?_)
      obtain ⟨ws_143, ty_144, hm_145, ht_147, hP1, hK1, hD1, hx_146⟩ := hB
      rw [ht] at hP1
      have hK := va_K.moved hvm.symm hK1
      have hD := hD1.weaken (fun _ _ _ h => hFc _ h)
      generalize H1 = H at hP1 hS ⊢
      have hP := hP1
      have e_148 := hm_145.keep (rz_o1 (pl_ne e_80 e_81 (by intro h9; simp at h9))) e_80
      have e_149 := hm_145.keep (rz_o1 (pl_ne e_82 e_81 (by intro h9; simp at h9))) e_82
      have e_150 := hm_145.keep (rz_o1 (pl_ne e_83 e_81 (by intro h9; simp at h9))) e_83
      have u_151 := ht_147 _ _ u_84
      have u_152 := ht_147 _ _ u_85
      have hm_153 : sm ρ [6] ws_75 ws_143 := hm_145.up (fun k _ h => rz_u1 wt_14 k h)
      have hsm := hsm.tr (hm_153.mono (by decide))
      have htx := htx.tr ht_147
      have e_154 : ws_143[ktp]? = some (tp, .inr (6, [.int (nI tl), .int (nI (kdF f9 tl (nxF f9 tl (nxF f9 tl ts)))), .int (nI (nxF f9 tl (nxF f9 tl ts))), .int (nI (teF f9 tl (nxF f9 tl (nxF f9 tl ts)))), .ref bb])) := hx_146; have hq_155 : pcB f9 tl (nxF f9 tl (nxF f9 tl ts)) := nxF_pc (f := f9) hq_53.1; have hq_1551 := hq_155.1; have hq_155t := teF_le (f := f9) hq_155.1; have hg_156 := nx_gain (f := f9) hq_53.1
      refine lv_aload_n hx hb dX4_readTest_99 rfl (lv_at hl 2 rfl) ?_
      refine lv_sipush (v := 1000) hx hb dX4_readTest_100 (by decide) ?_
      have hFc := free_all hD hS hA
      refine va_calli (va_runV (As := [.int 1000]) (rest := []) ⟨hx, hb, hml, hown, hts⟩ (r_readNumber l D ρ ws_143 ty_144 adK adV fo f9 rd krd tp ktp cd bb tl (nxF f9 tl (nxF f9 tl ts)) T nk fr fk fp vl 1000 H.size htl hng (⟨kc_1, cc_2, tc_3, fc_4, kb_5, cb_6, tb_7, fb_8, hq_155, hT_10, e_148, e_154, wr_13, wt_14, e_149, u_151, wc_17, hc_18, e_150, u_152, wb_21, hb_22⟩ : RSX ρ ws_143 ty_144 f9 rd krd tp ktp cd bb tl (nxF f9 tl (nxF f9 tl ts)) T nk fr fk fp vl) (by omega)) (cwV 1 hts gX4_readTest_X4_readNumber rfl rfl rfl (by decide +kernel) ⟨Nat.le_of_ble_eq_true rfl, Nat.le_of_ble_eq_true rfl⟩) ⟨fun a U g mk q => by obtain ⟨q0, q1, qP, qK, qD, qS⟩ := q; exact ⟨q0, q1, qP, va_K.moved (u := U) (U := U.calling g mk a) (Vm.Alike.refl U.vm) qK, qD, SZ.same rfl rfl qS⟩, va_recv hK hP (ci := 4) (q0 := krd) rfl e_148, fun U hU hW => ⟨rfl, by rw [hU], by rw [hU]; exact hP, va_K.moved hW.alike hK, hD.weaken (fun _ _ _ _ => trivial), hsz9.go hS hW hU hFc⟩⟩ rfl rfl hl.1 rfl (lv_room (Nat.le_of_ble_eq_true rfl)) dX4_readTest_103 ⟨Nat.le_of_ble_eq_true rfl, Nat.le_of_ble_eq_true rfl⟩) hS (fun q _ h => hFc q h) hFc (fun r_157 u t H1 locs ht hvm w_158 hB hz1 hk1 hS => ?_)
      subst w_158
      obtain ⟨ws_159, ty_160, hm_161, ht_163, hP1, hK1, hD1, hx_162⟩ := hB
      rw [ht] at hP1
      have hK := va_K.moved hvm.symm hK1
      have hD := hD1.weaken (fun _ _ _ h => hFc _ h)
      generalize H1 = H at hP1 hS ⊢
      have hP := hP1
      obtain ⟨g_165, e_164, h_166⟩ := hm_161.obj e_148
      obtain ⟨z_167, z_168, z_169, z_170, z_171, z_172, rfl⟩ := smX4 h_166
      obtain ⟨g_174, e_173, h_175⟩ := hm_161.obj e_154
      obtain ⟨z_176, z_177, z_178, z_179, rfl⟩ := smX6 h_175
      obtain ⟨f_181, e_180⟩ := hm_161.arrI e_149
      have u_182 := ht_163 _ _ u_151
      have e_183 := hm_161.keep (by rw [wb_21]; omega) e_150
      have u_184 := ht_163 _ _ u_152
      have hsm := hsm.tr (hm_161.mono (by decide))
      have htx := htx.tr ht_163
      obtain ⟨k_185, p_186, v_187, hn_188, ⟨rfl, hk_189, hk_190, vl_191, hR_192⟩ | ⟨rfl, hk_189, hR_192⟩⟩ := hx_162
      · obtain ⟨kc_193, cc_194, tc_195, fc_196, kb_197, cb_198, tb_199, fb_200, hp_201, hT_202, er_203, et_204, wr_205, wt_206, ec_207, uc_208, wc_209, hc_210, eb_211, ub_212, wb_213, hb_214⟩ := id hR_192
        have hp_2011 := hp_201.1
        have hp_201t := teF_le (f := f9) hp_201.1
        refine lv_if_ne (tgt := 111) hx hb dX4_readTest_106 (by decide) (fun c_215 => absurd (by decide) c_215) (fun c_215 => ?_)
        refine lv_iconst (v := 0) hx hb dX4_readTest_109 (by decide) ?_
        exact W.zret (v := 0) hx hb hr rfl (fun t ht hW => ⟨⟨0, 0, rfl, rfl, ws_159, ty_160, hsm, htx, by rw [ht]; exact hP, va_K.moved hW.alike hK, hD, ⟨k_185, p_186, 0, 9, v_187, Or.inr ⟨nxF f9 tl ts, (Or.inr (Or.inl ⟨by omega, by omega, rfl, rfl, by omega⟩) : whtR f9 tl ts 0 (nxF f9 tl ts) 0), Or.inr ⟨by omega, by omega, hn_188⟩⟩, Or.inl ⟨rfl, hk_189, by omega, _, _, (⟨kc_193, cc_194, tc_195, fc_196, kb_197, cb_198, tb_199, fb_200, hp_201, hT_202, er_203, et_204, wr_205, wt_206, ec_207, uc_208, wc_209, hc_210, eb_211, ub_212, wb_213, hb_214⟩ : RSX ρ ws_159 ty_160 f9 rd krd tp ktp cd bb tl (nxF f9 tl (nxF f9 tl ts)) T nk fr (nI k_185) (nI p_186) vl_191)⟩⟩⟩, hS.F ht⟩) hS.2.2 dX4_readTest_110
      subst hk_189
      obtain ⟨kc_216, cc_217, tc_218, fc_219, kb_220, cb_221, tb_222, fb_223, hp_224, hT_225, er_226, et_227, wr_228, wt_229, ec_230, uc_231, wc_232, hc_233, eb_234, ub_235, wb_236, hb_237⟩ := id hR_192
      have hp_2241 := hp_224.1
      have hp_224t := teF_le (f := f9) hp_224.1
      refine lv_if_ne (tgt := 111) hx hb dX4_readTest_106 (by decide) (fun c_238 => ?_) (fun c_238 => absurd c_238 (by decide))
      have hg8 := tst_gain (Or.inr ⟨nxF f9 tl ts, (Or.inr (Or.inl ⟨by omega, by omega, rfl, rfl, by omega⟩) : whtR f9 tl ts 0 (nxF f9 tl ts) 0), Or.inr ⟨by omega, by omega, hn_188⟩⟩ : tstR f9 tl ts 0 p_186 0 9 v_187) hp_91
      refine lv_aload_n hx hb dX4_readTest_111 rfl (lv_at hl 2 rfl) ?_
      refine lv_iload_n hx hb dX4_readTest_112 rfl (lv_at hl 1 rfl) ?_
      refine lv_iload_n hx hb dX4_readTest_113 rfl (lv_at hl 0 rfl) ?_
      refine lv_aload_n hx hb dX4_readTest_114 rfl (lv_at hl 2 rfl) ?_
      refine va_get (D := D) (ci := 4) (v := .int (nI v_187)) (C := RX4) (T := TX4) (N := 8) hx hb hts hin4 hown hK hP krd er_226 rfl 7 (by decide) (hts (.fieldLink RX4 56 "HoneyHouse$RuleReader" "value" "I") (List.mem_of_getElem? (i := 2) rfl)) (fun _ h9 => h9) rfl dX4_readTest_115 ?_
      refine vp_callSi (W.runS (As := [.int 0, .int 0, .int (nI v_187)]) (rest := [.ref rd]) ⟨hx, hb, hml, hown, hts⟩ (s_testCode0 l 0 v_187) (va_cwS 3 hts gX4_readTest_X4_testCode rfl rfl rfl (by decide +kernel) ⟨Nat.le_of_ble_eq_true rfl, Nat.le_of_ble_eq_true rfl⟩) ⟨fun a U g mk q => q, fun U hU hW => ⟨rfl, trivial⟩⟩ rfl rfl hl.1 rfl (lv_room (Nat.le_of_ble_eq_true rfl)) dX4_readTest_118 ⟨Nat.le_of_ble_eq_true rfl, Nat.le_of_ble_eq_true rfl⟩) (fun r_239 k_240 => ?_)
      have hFc := free_all hD hS hA
      refine va_callv (va_runV (As := [.int r_239]) (rest := []) ⟨hx, hb, hml, hown, hts⟩ (r_addCode l D ρ ws_159 ty_160 adK adV fo f9 rd krd tp ktp cd bb tl p_186 T nk fr fk fp (nI v_187) (13, 0, 9, v_187) r_239 H.size htl hng (⟨kc_216, cc_217, tc_218, fc_219, kb_220, cb_221, tb_222, fb_223, hp_224, hT_225, er_226, et_227, wr_228, wt_229, ec_230, uc_231, wc_232, hc_233, eb_234, ub_235, wb_236, hb_237⟩ : RSX ρ ws_159 ty_160 f9 rd krd tp ktp cd bb tl p_186 T nk fr fk fp (nI v_187)) k_240) (cwV 1 hts gX4_readTest_X4_addCode rfl rfl rfl (by decide +kernel) ⟨Nat.le_of_ble_eq_true rfl, Nat.le_of_ble_eq_true rfl⟩) ⟨fun a U g mk q => by obtain ⟨q0, q1, qP, qK, qD, qS⟩ := q; exact ⟨q0, q1, qP, va_K.moved (u := U) (U := U.calling g mk a) (Vm.Alike.refl U.vm) qK, qD, SZ.same rfl rfl qS⟩, va_recv hK hP (ci := 4) (q0 := krd) rfl er_226, fun U hU hW => ⟨rfl, by rw [hU], by rw [hU]; exact hP, va_K.moved hW.alike hK, hD.weaken (fun _ _ _ _ => trivial), hsz9.go hS hW hU hFc⟩⟩ rfl rfl hl.1 rfl (lv_room (Nat.le_of_ble_eq_true rfl)) dX4_readTest_121 ⟨Nat.le_of_ble_eq_true rfl, Nat.le_of_ble_eq_true rfl⟩) hS (fun q _ h => hFc q h) hFc (fun u t H1 locs ht hvm w_242 hB hz1 hk1 hS => ?_)
      obtain ⟨ws_243, ty_244, hm_245, ht_247, hP1, hK1, hD1, hx_246⟩ := hB
      rw [ht] at hP1
      have hK := va_K.moved hvm.symm hK1
      have hD := hD1.weaken (fun _ _ _ h => hFc _ h)
      generalize H1 = H at hP1 hS ⊢
      have hP := hP1
      obtain ⟨g_249, e_248, h_250⟩ := hm_245.obj er_226
      obtain ⟨z_251, z_252, z_253, z_254, z_255, z_256, rfl⟩ := smX4 h_250
      obtain ⟨g_258, e_257, h_259⟩ := hm_245.obj et_227
      obtain ⟨z_260, z_261, z_262, z_263, rfl⟩ := smX6 h_259
      obtain ⟨f_265, e_264⟩ := hm_245.arrI ec_230
      have u_266 := ht_247 _ _ uc_231
      have e_267 := hm_245.keep (by rw [wb_236]; omega) eb_234
      have u_268 := ht_247 _ _ ub_235
      have hsm := hsm.tr (hm_245.mono (by decide))
      have htx := htx.tr ht_247
      obtain ⟨hl_269, hR_270⟩ := hx_246.resolve_right (fun h9 => h9.1 (by omega))
      obtain ⟨kc_271, cc_272, tc_273, fc_274, kb_275, cb_276, tb_277, fb_278, hp_279, hT_280, er_281, et_282, wr_283, wt_284, ec_285, uc_286, wc_287, hc_288, eb_289, ub_290, wb_291, hb_292⟩ := id hR_270
      have hp_2791 := hp_279.1
      have hp_279t := teF_le (f := f9) hp_279.1
      refine lv_iconst (v := 1) hx hb dX4_readTest_124 (by decide) ?_
      have ht9 : tstR f9 tl ts 0 p_186 0 9 v_187 := Or.inr ⟨nxF f9 tl ts, (Or.inr (Or.inl ⟨by omega, by omega, rfl, rfl, by omega⟩) : whtR f9 tl ts 0 (nxF f9 tl ts) 0), Or.inr ⟨by omega, by omega, hn_188⟩⟩
      have hg9 := tst_gain ht9 hp_91
      exact W.zret (v := 1) hx hb hr rfl (fun t ht hW => ⟨⟨1, 1, rfl, rfl, ws_243, ty_244, hsm, htx, by rw [ht]; exact hP, va_K.moved hW.alike hK, hD, ⟨0, p_186, 0, 9, v_187, ht9, Or.inr ⟨rfl, rfl, by omega, _, (⟨kc_271, cc_272, tc_273, fc_274, kb_275, cb_276, tb_277, fb_278, hp_279, hT_280, er_281, et_282, wr_283, wt_284, ec_285, uc_286, wc_287, hc_288, eb_289, ub_290, wb_291, hb_292⟩ : RSX ρ ws_243 ty_244 f9 rd krd tp ktp cd bb tl p_186 (T ++ [(13, 0, 9, v_187)]) nk fr fk fp (nI v_187))⟩⟩⟩, hS.F ht⟩) hS.2.2 dX4_readTest_125
    have iw_71 : wdE f9 tl (nxF f9 tl ts) = 10 := iw_71
    refine lv_istore_n (lv' := [(2, .int 1), (1, .int 0), (0, .ref rd)]) hx hb dX4_readTest_70 rfl hl (by decide) rfl (fun ls hl => ?_)
    refine lv_iload_n hx hb dX4_readTest_71 rfl (lv_at hl 0 rfl) ?_
    refine lv_if_ne (tgt := 92) hx hb dX4_readTest_72 (by decide) (fun c_293 => ?_) (fun c_293 => absurd c_293 (by decide))
    refine lv_aload_n hx hb dX4_readTest_92 rfl (lv_at hl 2 rfl) ?_
    refine va_get (D := D) (ci := 4) (v := .ref tp) (C := RX4) (T := TX4) (N := 8) hx hb hts hin4 hown hK hP krd e_64 rfl 0 (by decide) (hts (.fieldLink RX4 12 "HoneyHouse$RuleReader" "tape" "LHoneyHouse$Tape;") (List.mem_of_getElem? (i := 1) rfl)) (fun _ h9 => h9) rfl dX4_readTest_93 ?_
    have hFc := free_all hD hS hA
    refine va_callv (va_runV (As := []) (rest := []) ⟨hx, hb, hml, hown, hts⟩ (a_advance l D (rz [ktp]) ws_59 ty_60 f9 tp ktp tl (teF f9 tl (nxF f9 tl ts)) (nI (kdF f9 tl (nxF f9 tl ts))) (nI (nxF f9 tl ts)) bb kb_5 cb_6 tb_7 fb_8 H.size htl hb_22 hng (by omega) e_65 e_67 u_69 (rz_o1 (pl_ne e_67 e_65 (by intro h9; simp at h9))) (rz_in (by simp))) (cwV 0 hts gX4_readTest_X6_advance rfl rfl rfl (by decide +kernel) ⟨Nat.le_of_ble_eq_true rfl, Nat.le_of_ble_eq_true rfl⟩) ⟨fun a U g mk q => by obtain ⟨q0, q1, qP, qK, qD⟩ := q; exact ⟨q0, q1, qP, va_K.moved (u := U) (U := U.calling g mk a) (Vm.Alike.refl U.vm) qK, qD⟩, va_recv hK hP (ci := 6) (q0 := ktp) rfl e_65, fun U hU hW => ⟨rfl, by rw [hU], by rw [hU]; exact hP, va_K.moved hW.alike hK, hD.weaken (fun _ _ _ _ => trivial)⟩⟩ rfl rfl hl.1 rfl (lv_room (Nat.le_of_ble_eq_true rfl)) dX4_readTest_96 ⟨Nat.le_of_ble_eq_true rfl, Nat.le_of_ble_eq_true rfl⟩) hS (fun q _ h => hFc q h) hFc (fun u t H1 locs ht hvm w_295 hB hz1 hk1 hS => ?_)
    obtain ⟨ws_296, ty_297, hm_298, ht_300, hP1, hK1, hD1, hx_299⟩ := hB
    rw [ht] at hP1
    have hK := va_K.moved hvm.symm hK1
    have hD := hD1.weaken (fun _ _ _ h => hFc _ h)
    generalize H1 = H at hP1 hS ⊢
    have hP := hP1
    have e_301 := hm_298.keep (rz_o1 (pl_ne e_64 e_65 (by intro h9; simp at h9))) e_64
    have e_302 := hm_298.keep (rz_o1 (pl_ne e_66 e_65 (by intro h9; simp at h9))) e_66
    have e_303 := hm_298.keep (rz_o1 (pl_ne e_67 e_65 (by intro h9; simp at h9))) e_67
    have u_304 := ht_300 _ _ u_68
    have u_305 := ht_300 _ _ u_69
    have hm_306 : sm ρ [6] ws_59 ws_296 := hm_298.up (fun k _ h => rz_u1 wt_14 k h)
    have hsm := hsm.tr (hm_306.mono (by decide))
    have htx := htx.tr ht_300
    have e_307 : ws_296[ktp]? = some (tp, .inr (6, [.int (nI tl), .int (nI (kdF f9 tl (nxF f9 tl (nxF f9 tl ts)))), .int (nI (nxF f9 tl (nxF f9 tl ts))), .int (nI (teF f9 tl (nxF f9 tl (nxF f9 tl ts)))), .ref bb])) := hx_299; have hq_308 : pcB f9 tl (nxF f9 tl (nxF f9 tl ts)) := nxF_pc (f := f9) hq_53.1; have hq_3081 := hq_308.1; have hq_308t := teF_le (f := f9) hq_308.1; have hg_309 := nx_gain (f := f9) hq_53.1
    refine lv_aload_n hx hb dX4_readTest_99 rfl (lv_at hl 2 rfl) ?_
    refine lv_sipush (v := 1000) hx hb dX4_readTest_100 (by decide) ?_
    have hFc := free_all hD hS hA
    refine va_calli (va_runV (As := [.int 1000]) (rest := []) ⟨hx, hb, hml, hown, hts⟩ (r_readNumber l D ρ ws_296 ty_297 adK adV fo f9 rd krd tp ktp cd bb tl (nxF f9 tl (nxF f9 tl ts)) T nk fr fk fp vl 1000 H.size htl hng (⟨kc_1, cc_2, tc_3, fc_4, kb_5, cb_6, tb_7, fb_8, hq_308, hT_10, e_301, e_307, wr_13, wt_14, e_302, u_304, wc_17, hc_18, e_303, u_305, wb_21, hb_22⟩ : RSX ρ ws_296 ty_297 f9 rd krd tp ktp cd bb tl (nxF f9 tl (nxF f9 tl ts)) T nk fr fk fp vl) (by omega)) (cwV 1 hts gX4_readTest_X4_readNumber rfl rfl rfl (by decide +kernel) ⟨Nat.le_of_ble_eq_true rfl, Nat.le_of_ble_eq_true rfl⟩) ⟨fun a U g mk q => by obtain ⟨q0, q1, qP, qK, qD, qS⟩ := q; exact ⟨q0, q1, qP, va_K.moved (u := U) (U := U.calling g mk a) (Vm.Alike.refl U.vm) qK, qD, SZ.same rfl rfl qS⟩, va_recv hK hP (ci := 4) (q0 := krd) rfl e_301, fun U hU hW => ⟨rfl, by rw [hU], by rw [hU]; exact hP, va_K.moved hW.alike hK, hD.weaken (fun _ _ _ _ => trivial), hsz9.go hS hW hU hFc⟩⟩ rfl rfl hl.1 rfl (lv_room (Nat.le_of_ble_eq_true rfl)) dX4_readTest_103 ⟨Nat.le_of_ble_eq_true rfl, Nat.le_of_ble_eq_true rfl⟩) hS (fun q _ h => hFc q h) hFc (fun r_310 u t H1 locs ht hvm w_311 hB hz1 hk1 hS => ?_)
    subst w_311
    obtain ⟨ws_312, ty_313, hm_314, ht_316, hP1, hK1, hD1, hx_315⟩ := hB
    rw [ht] at hP1
    have hK := va_K.moved hvm.symm hK1
    have hD := hD1.weaken (fun _ _ _ h => hFc _ h)
    generalize H1 = H at hP1 hS ⊢
    have hP := hP1
    obtain ⟨g_318, e_317, h_319⟩ := hm_314.obj e_301
    obtain ⟨z_320, z_321, z_322, z_323, z_324, z_325, rfl⟩ := smX4 h_319
    obtain ⟨g_327, e_326, h_328⟩ := hm_314.obj e_307
    obtain ⟨z_329, z_330, z_331, z_332, rfl⟩ := smX6 h_328
    obtain ⟨f_334, e_333⟩ := hm_314.arrI e_302
    have u_335 := ht_316 _ _ u_304
    have e_336 := hm_314.keep (by rw [wb_21]; omega) e_303
    have u_337 := ht_316 _ _ u_305
    have hsm := hsm.tr (hm_314.mono (by decide))
    have htx := htx.tr ht_316
    obtain ⟨k_338, p_339, v_340, hn_341, ⟨rfl, hk_342, hk_343, vl_344, hR_345⟩ | ⟨rfl, hk_342, hR_345⟩⟩ := hx_315
    · obtain ⟨kc_346, cc_347, tc_348, fc_349, kb_350, cb_351, tb_352, fb_353, hp_354, hT_355, er_356, et_357, wr_358, wt_359, ec_360, uc_361, wc_362, hc_363, eb_364, ub_365, wb_366, hb_367⟩ := id hR_345
      have hp_3541 := hp_354.1
      have hp_354t := teF_le (f := f9) hp_354.1
      refine lv_if_ne (tgt := 111) hx hb dX4_readTest_106 (by decide) (fun c_368 => absurd (by decide) c_368) (fun c_368 => ?_)
      refine lv_iconst (v := 0) hx hb dX4_readTest_109 (by decide) ?_
      exact W.zret (v := 0) hx hb hr rfl (fun t ht hW => ⟨⟨0, 0, rfl, rfl, ws_312, ty_313, hsm, htx, by rw [ht]; exact hP, va_K.moved hW.alike hK, hD, ⟨k_338, p_339, 0, 10, v_340, Or.inr ⟨nxF f9 tl ts, (Or.inr (Or.inl ⟨by omega, by omega, rfl, rfl, by omega⟩) : whtR f9 tl ts 0 (nxF f9 tl ts) 0), Or.inr ⟨by omega, by omega, hn_341⟩⟩, Or.inl ⟨rfl, hk_342, by omega, _, _, (⟨kc_346, cc_347, tc_348, fc_349, kb_350, cb_351, tb_352, fb_353, hp_354, hT_355, er_356, et_357, wr_358, wt_359, ec_360, uc_361, wc_362, hc_363, eb_364, ub_365, wb_366, hb_367⟩ : RSX ρ ws_312 ty_313 f9 rd krd tp ktp cd bb tl (nxF f9 tl (nxF f9 tl ts)) T nk fr (nI k_338) (nI p_339) vl_344)⟩⟩⟩, hS.F ht⟩) hS.2.2 dX4_readTest_110
    subst hk_342
    obtain ⟨kc_369, cc_370, tc_371, fc_372, kb_373, cb_374, tb_375, fb_376, hp_377, hT_378, er_379, et_380, wr_381, wt_382, ec_383, uc_384, wc_385, hc_386, eb_387, ub_388, wb_389, hb_390⟩ := id hR_345
    have hp_3771 := hp_377.1
    have hp_377t := teF_le (f := f9) hp_377.1
    refine lv_if_ne (tgt := 111) hx hb dX4_readTest_106 (by decide) (fun c_391 => ?_) (fun c_391 => absurd c_391 (by decide))
    have hg8 := tst_gain (Or.inr ⟨nxF f9 tl ts, (Or.inr (Or.inl ⟨by omega, by omega, rfl, rfl, by omega⟩) : whtR f9 tl ts 0 (nxF f9 tl ts) 0), Or.inr ⟨by omega, by omega, hn_341⟩⟩ : tstR f9 tl ts 0 p_339 0 10 v_340) hp_91
    refine lv_aload_n hx hb dX4_readTest_111 rfl (lv_at hl 2 rfl) ?_
    refine lv_iload_n hx hb dX4_readTest_112 rfl (lv_at hl 1 rfl) ?_
    refine lv_iload_n hx hb dX4_readTest_113 rfl (lv_at hl 0 rfl) ?_
    refine lv_aload_n hx hb dX4_readTest_114 rfl (lv_at hl 2 rfl) ?_
    refine va_get (D := D) (ci := 4) (v := .int (nI v_340)) (C := RX4) (T := TX4) (N := 8) hx hb hts hin4 hown hK hP krd er_379 rfl 7 (by decide) (hts (.fieldLink RX4 56 "HoneyHouse$RuleReader" "value" "I") (List.mem_of_getElem? (i := 2) rfl)) (fun _ h9 => h9) rfl dX4_readTest_115 ?_
    refine vp_callSi (W.runS (As := [.int 0, .int 1, .int (nI v_340)]) (rest := [.ref rd]) ⟨hx, hb, hml, hown, hts⟩ (s_testCode1 l 0 v_340) (va_cwS 3 hts gX4_readTest_X4_testCode rfl rfl rfl (by decide +kernel) ⟨Nat.le_of_ble_eq_true rfl, Nat.le_of_ble_eq_true rfl⟩) ⟨fun a U g mk q => q, fun U hU hW => ⟨rfl, trivial⟩⟩ rfl rfl hl.1 rfl (lv_room (Nat.le_of_ble_eq_true rfl)) dX4_readTest_118 ⟨Nat.le_of_ble_eq_true rfl, Nat.le_of_ble_eq_true rfl⟩) (fun r_392 k_393 => ?_)
    have hFc := free_all hD hS hA
    refine va_callv (va_runV (As := [.int r_392]) (rest := []) ⟨hx, hb, hml, hown, hts⟩ (r_addCode l D ρ ws_312 ty_313 adK adV fo f9 rd krd tp ktp cd bb tl p_339 T nk fr fk fp (nI v_340) (13, 0, 10, v_340) r_392 H.size htl hng (⟨kc_369, cc_370, tc_371, fc_372, kb_373, cb_374, tb_375, fb_376, hp_377, hT_378, er_379, et_380, wr_381, wt_382, ec_383, uc_384, wc_385, hc_386, eb_387, ub_388, wb_389, hb_390⟩ : RSX ρ ws_312 ty_313 f9 rd krd tp ktp cd bb tl p_339 T nk fr fk fp (nI v_340)) k_393) (cwV 1 hts gX4_readTest_X4_addCode rfl rfl rfl (by decide +kernel) ⟨Nat.le_of_ble_eq_true rfl, Nat.le_of_ble_eq_true rfl⟩) ⟨fun a U g mk q => by obtain ⟨q0, q1, qP, qK, qD, qS⟩ := q; exact ⟨q0, q1, qP, va_K.moved (u := U) (U := U.calling g mk a) (Vm.Alike.refl U.vm) qK, qD, SZ.same rfl rfl qS⟩, va_recv hK hP (ci := 4) (q0 := krd) rfl er_379, fun U hU hW => ⟨rfl, by rw [hU], by rw [hU]; exact hP, va_K.moved hW.alike hK, hD.weaken (fun _ _ _ _ => trivial), hsz9.go hS hW hU hFc⟩⟩ rfl rfl hl.1 rfl (lv_room (Nat.le_of_ble_eq_true rfl)) dX4_readTest_121 ⟨Nat.le_of_ble_eq_true rfl, Nat.le_of_ble_eq_true rfl⟩) hS (fun q _ h => hFc q h) hFc (fun u t H1 locs ht hvm w_395 hB hz1 hk1 hS => ?_)
    obtain ⟨ws_396, ty_397, hm_398, ht_400, hP1, hK1, hD1, hx_399⟩ := hB
    rw [ht] at hP1
    have hK := va_K.moved hvm.symm hK1
    have hD := hD1.weaken (fun _ _ _ h => hFc _ h)
    generalize H1 = H at hP1 hS ⊢
    have hP := hP1
    obtain ⟨g_402, e_401, h_403⟩ := hm_398.obj er_379
    obtain ⟨z_404, z_405, z_406, z_407, z_408, z_409, rfl⟩ := smX4 h_403
    obtain ⟨g_411, e_410, h_412⟩ := hm_398.obj et_380
    obtain ⟨z_413, z_414, z_415, z_416, rfl⟩ := smX6 h_412
    obtain ⟨f_418, e_417⟩ := hm_398.arrI ec_383
    have u_419 := ht_400 _ _ uc_384
    have e_420 := hm_398.keep (by rw [wb_389]; omega) eb_387
    have u_421 := ht_400 _ _ ub_388
    have hsm := hsm.tr (hm_398.mono (by decide))
    have htx := htx.tr ht_400
    obtain ⟨hl_422, hR_423⟩ := hx_399.resolve_right (fun h9 => h9.1 (by omega))
    obtain ⟨kc_424, cc_425, tc_426, fc_427, kb_428, cb_429, tb_430, fb_431, hp_432, hT_433, er_434, et_435, wr_436, wt_437, ec_438, uc_439, wc_440, hc_441, eb_442, ub_443, wb_444, hb_445⟩ := id hR_423
    have hp_4321 := hp_432.1
    have hp_432t := teF_le (f := f9) hp_432.1
    refine lv_iconst (v := 1) hx hb dX4_readTest_124 (by decide) ?_
    have ht9 : tstR f9 tl ts 0 p_339 0 10 v_340 := Or.inr ⟨nxF f9 tl ts, (Or.inr (Or.inl ⟨by omega, by omega, rfl, rfl, by omega⟩) : whtR f9 tl ts 0 (nxF f9 tl ts) 0), Or.inr ⟨by omega, by omega, hn_341⟩⟩
    have hg9 := tst_gain ht9 hp_91
    exact W.zret (v := 1) hx hb hr rfl (fun t ht hW => ⟨⟨1, 1, rfl, rfl, ws_396, ty_397, hsm, htx, by rw [ht]; exact hP, va_K.moved hW.alike hK, hD, ⟨0, p_339, 0, 10, v_340, ht9, Or.inr ⟨rfl, rfl, by omega, _, (⟨kc_424, cc_425, tc_426, fc_427, kb_428, cb_429, tb_430, fb_431, hp_432, hT_433, er_434, et_435, wr_436, wt_437, ec_438, uc_439, wc_440, hc_441, eb_442, ub_443, wb_444, hb_445⟩ : RSX ρ ws_396 ty_397 f9 rd krd tp ktp cd bb tl p_339 (T ++ [(13, 0, 10, v_340)]) nk fr fk fp (nI v_340))⟩⟩⟩, hS.F ht⟩) hS.2.2 dX4_readTest_125
  · refine lv_istore_n (lv' := [(1, .int 1), (0, .ref rd)]) hx hb dX4_readTest_4 rfl hl (by decide) rfl (fun ls hl => ?_)
    refine lv_iload_n hx hb dX4_readTest_5 rfl (lv_at hl 0 rfl) ?_
    refine lv_iconst (v := (-1)) hx hb dX4_readTest_6 (by decide) ?_
    refine lv_icmp_ne (tgt := 15) hx hb dX4_readTest_7 (by decide) (fun c_446 => ?_) (fun c_446 => absurd c_446 (by decide))
    refine lv_aload_n hx hb dX4_readTest_15 rfl (lv_at hl 1 rfl) ?_
    refine va_get (D := D) (ci := 4) (v := .ref tp) (C := RX4) (T := TX4) (N := 8) hx hb hts hin4 hown hK hP krd e_30 rfl 0 (by decide) (hts (.fieldLink RX4 12 "HoneyHouse$RuleReader" "tape" "LHoneyHouse$Tape;") (List.mem_of_getElem? (i := 1) rfl)) (fun _ h9 => h9) rfl dX4_readTest_16 ?_
    have hFc := free_all hD hS hA
    refine va_callv (va_runV (As := []) (rest := []) ⟨hx, hb, hml, hown, hts⟩ (a_advance l D (rz [ktp]) ws_25 ty_26 f9 tp ktp tl (teF f9 tl ts) (nI (kdF f9 tl ts)) (nI ts) bb kb_5 cb_6 tb_7 fb_8 H.size htl hb_22 hng (by omega) e_31 e_33 u_35 (rz_o1 (pl_ne e_33 e_31 (by intro h9; simp at h9))) (rz_in (by simp))) (cwV 0 hts gX4_readTest_X6_advance rfl rfl rfl (by decide +kernel) ⟨Nat.le_of_ble_eq_true rfl, Nat.le_of_ble_eq_true rfl⟩) ⟨fun a U g mk q => by obtain ⟨q0, q1, qP, qK, qD⟩ := q; exact ⟨q0, q1, qP, va_K.moved (u := U) (U := U.calling g mk a) (Vm.Alike.refl U.vm) qK, qD⟩, va_recv hK hP (ci := 6) (q0 := ktp) rfl e_31, fun U hU hW => ⟨rfl, by rw [hU], by rw [hU]; exact hP, va_K.moved hW.alike hK, hD.weaken (fun _ _ _ _ => trivial)⟩⟩ rfl rfl hl.1 rfl (lv_room (Nat.le_of_ble_eq_true rfl)) dX4_readTest_19 ⟨Nat.le_of_ble_eq_true rfl, Nat.le_of_ble_eq_true rfl⟩) hS (fun q _ h => hFc q h) hFc (fun u t H1 locs ht hvm w_448 hB hz1 hk1 hS => ?_)
    obtain ⟨ws_449, ty_450, hm_451, ht_453, hP1, hK1, hD1, hx_452⟩ := hB
    rw [ht] at hP1
    have hK := va_K.moved hvm.symm hK1
    have hD := hD1.weaken (fun _ _ _ h => hFc _ h)
    generalize H1 = H at hP1 hS ⊢
    have hP := hP1
    have e_454 := hm_451.keep (rz_o1 (pl_ne e_30 e_31 (by intro h9; simp at h9))) e_30
    have e_455 := hm_451.keep (rz_o1 (pl_ne e_32 e_31 (by intro h9; simp at h9))) e_32
    have e_456 := hm_451.keep (rz_o1 (pl_ne e_33 e_31 (by intro h9; simp at h9))) e_33
    have u_457 := ht_453 _ _ u_34
    have u_458 := ht_453 _ _ u_35
    have hm_459 : sm ρ [6] ws_25 ws_449 := hm_451.up (fun k _ h => rz_u1 wt_14 k h)
    have hsm := hsm.tr (hm_459.mono (by decide))
    have htx := htx.tr ht_453
    have e_460 : ws_449[ktp]? = some (tp, .inr (6, [.int (nI tl), .int (nI (kdF f9 tl (nxF f9 tl ts))), .int (nI (nxF f9 tl ts)), .int (nI (teF f9 tl (nxF f9 tl ts))), .ref bb])) := hx_452; have hq_461 : pcB f9 tl (nxF f9 tl ts) := nxF_pc (f := f9) hp_9.1; have hq_4611 := hq_461.1; have hq_461t := teF_le (f := f9) hq_461.1; have hg_462 := nx_gain (f := f9) hp_9.1
    refine lv_iload_n hx hb dX4_readTest_22 rfl (lv_at hl 0 rfl) ?_
    refine lv_bipush (v := 10) hx hb dX4_readTest_23 (by decide) ?_
    refine lv_icmp_eq (tgt := 34) hx hb dX4_readTest_25 (by decide) (fun c_463 => absurd c_463 (by decide)) (fun c_463 => ?_)
    refine lv_iload_n hx hb dX4_readTest_28 rfl (lv_at hl 0 rfl) ?_
    refine lv_bipush (v := 30) hx hb dX4_readTest_29 (by decide) ?_
    refine lv_icmp_ne (tgt := 61) hx hb dX4_readTest_31 (by decide) (fun c_464 => ?_) (fun c_464 => absurd c_464 (by decide))
    refine lv_aload_n hx hb dX4_readTest_61 rfl (lv_at hl 1 rfl) ?_
    refine va_get (D := D) (ci := 4) (v := .ref tp) (C := RX4) (T := TX4) (N := 8) hx hb hts hin4 hown hK hP krd e_454 rfl 0 (by decide) (hts (.fieldLink RX4 12 "HoneyHouse$RuleReader" "tape" "LHoneyHouse$Tape;") (List.mem_of_getElem? (i := 1) rfl)) (fun _ h9 => h9) rfl dX4_readTest_62 ?_
    refine va_ldcS hx hb hown hsz9.2.2.2.2.2.2.2.2.1 dX4_readTest_65 ?_
    have hFc := free_all hD hS hA
    refine va_calli (va_runV (As := [.ref (adK 5)]) (rest := []) ⟨hx, hb, hml, hown, hts⟩ (a_isWord l D (rz []) ws_449 ty_450 adK adV fo 5 f9 tp ktp tl (nxF f9 tl ts) bb kb_5 cb_6 tb_7 fb_8 H.size (by decide) htl hb_22 hng hq_461 e_460 e_456 u_458 rz_o0) (cwV 1 hts gX4_readTest_X6_isWord rfl rfl rfl (by decide +kernel) ⟨Nat.le_of_ble_eq_true rfl, Nat.le_of_ble_eq_true rfl⟩) ⟨fun a U g mk q => by obtain ⟨q0, q1, qP, qK, qD, qS⟩ := q; exact ⟨q0, q1, qP, va_K.moved (u := U) (U := U.calling g mk a) (Vm.Alike.refl U.vm) qK, qD, SZ.same rfl rfl qS⟩, va_recv hK hP (ci := 6) (q0 := ktp) rfl e_460, fun U hU hW => ⟨rfl, by rw [hU], by rw [hU]; exact hP, va_K.moved hW.alike hK, hD.weaken (fun _ _ _ _ => trivial), hsz9.go hS hW hU hFc⟩⟩ rfl rfl hl.1 rfl (lv_room (Nat.le_of_ble_eq_true rfl)) dX4_readTest_67 ⟨Nat.le_of_ble_eq_true rfl, Nat.le_of_ble_eq_true rfl⟩) hS (fun q _ h => hFc q h) hFc (fun r_465 u t H1 locs ht hvm w_466 hB hz1 hk1 hS => ?_)
    obtain ⟨ws_467, ty_468, hm_469, ht_471, hP1, hK1, hD1, hx_470⟩ := hB
    rw [ht] at hP1
    have hK := va_K.moved hvm.symm hK1
    have hD := hD1.weaken (fun _ _ _ h => hFc _ h)
    generalize H1 = H at hP1 hS ⊢
    have hP := hP1
    have e_472 := hm_469.keep rz_o0 e_454
    have e_473 := hm_469.keep rz_o0 e_460
    have e_474 := hm_469.keep rz_o0 e_455
    have e_475 := hm_469.keep rz_o0 e_456
    have u_476 := ht_471 _ _ u_457
    have u_477 := ht_471 _ _ u_458
    have hm_478 : sm ρ [] ws_449 ws_467 := hm_469.up (fun k _ h => rz_u0  k h)
    have hsm := hsm.tr (hm_478.mono (by decide))
    have htx := htx.tr ht_471
    rcases w_466 with ⟨rfl, iw_479⟩ | ⟨rfl, iw_479⟩
    · have iw_479 : ¬ wdE f9 tl (nxF f9 tl ts) = 10 := iw_479
      refine lv_istore_n (lv' := [(2, .int 0), (1, .int 1), (0, .ref rd)]) hx hb dX4_readTest_70 rfl hl (by decide) rfl (fun ls hl => ?_)
      refine lv_iload_n hx hb dX4_readTest_71 rfl (lv_at hl 0 rfl) ?_
      refine lv_if_ne (tgt := 92) hx hb dX4_readTest_72 (by decide) (fun c_480 => absurd (by decide) c_480) (fun c_480 => ?_)
      refine lv_aload_n hx hb dX4_readTest_75 rfl (lv_at hl 2 rfl) ?_
      refine va_get (D := D) (ci := 4) (v := .ref tp) (C := RX4) (T := TX4) (N := 8) hx hb hts hin4 hown hK hP krd e_472 rfl 0 (by decide) (hts (.fieldLink RX4 12 "HoneyHouse$RuleReader" "tape" "LHoneyHouse$Tape;") (List.mem_of_getElem? (i := 1) rfl)) (fun _ h9 => h9) rfl dX4_readTest_76 ?_
      refine va_ldcS hx hb hown hsz9.2.2.2.2.2.2.2.1 dX4_readTest_79 ?_
      have hFc := free_all hD hS hA
      refine va_calli (va_runV (As := [.ref (adK 4)]) (rest := []) ⟨hx, hb, hml, hown, hts⟩ (a_isWord l D (rz []) ws_467 ty_468 adK adV fo 4 f9 tp ktp tl (nxF f9 tl ts) bb kb_5 cb_6 tb_7 fb_8 H.size (by decide) htl hb_22 hng hq_461 e_473 e_475 u_477 rz_o0) (cwV 1 hts gX4_readTest_X6_isWord rfl rfl rfl (by decide +kernel) ⟨Nat.le_of_ble_eq_true rfl, Nat.le_of_ble_eq_true rfl⟩) ⟨fun a U g mk q => by obtain ⟨q0, q1, qP, qK, qD, qS⟩ := q; exact ⟨q0, q1, qP, va_K.moved (u := U) (U := U.calling g mk a) (Vm.Alike.refl U.vm) qK, qD, SZ.same rfl rfl qS⟩, va_recv hK hP (ci := 6) (q0 := ktp) rfl e_473, fun U hU hW => ⟨rfl, by rw [hU], by rw [hU]; exact hP, va_K.moved hW.alike hK, hD.weaken (fun _ _ _ _ => trivial), hsz9.go hS hW hU hFc⟩⟩ rfl rfl hl.1 rfl (lv_room (Nat.le_of_ble_eq_true rfl)) dX4_readTest_81 ⟨Nat.le_of_ble_eq_true rfl, Nat.le_of_ble_eq_true rfl⟩) hS (fun q _ h => hFc q h) hFc (fun r_481 u t H1 locs ht hvm w_482 hB hz1 hk1 hS => ?_)
      obtain ⟨ws_483, ty_484, hm_485, ht_487, hP1, hK1, hD1, hx_486⟩ := hB
      rw [ht] at hP1
      have hK := va_K.moved hvm.symm hK1
      have hD := hD1.weaken (fun _ _ _ h => hFc _ h)
      generalize H1 = H at hP1 hS ⊢
      have hP := hP1
      have e_488 := hm_485.keep rz_o0 e_472
      have e_489 := hm_485.keep rz_o0 e_473
      have e_490 := hm_485.keep rz_o0 e_474
      have e_491 := hm_485.keep rz_o0 e_475
      have u_492 := ht_487 _ _ u_476
      have u_493 := ht_487 _ _ u_477
      have hm_494 : sm ρ [] ws_467 ws_483 := hm_485.up (fun k _ h => rz_u0  k h)
      have hsm := hsm.tr (hm_494.mono (by decide))
      have htx := htx.tr ht_487
      rcases w_482 with ⟨rfl, iw_495⟩ | ⟨rfl, iw_495⟩
      · have iw_495 : ¬ wdE f9 tl (nxF f9 tl ts) = 9 := iw_495
        refine lv_if_ne (tgt := 92) hx hb dX4_readTest_84 (by decide) (fun c_496 => absurd (by decide) c_496) (fun c_496 => ?_)
        refine lv_aload_n hx hb dX4_readTest_87 rfl (lv_at hl 2 rfl) ?_
        have hFc := free_all hD hS hA
        refine va_calli (va_runV (As := []) (rest := []) ⟨hx, hb, hml, hown, hts⟩ (r_failHere l D ρ ws_483 ty_484 adK adV fo f9 rd krd tp ktp cd bb tl (nxF f9 tl ts) T nk fr fk fp vl  H.size htl hng (⟨kc_1, cc_2, tc_3, fc_4, kb_5, cb_6, tb_7, fb_8, hq_461, hT_10, e_488, e_489, wr_13, wt_14, e_490, u_492, wc_17, hc_18, e_491, u_493, wb_21, hb_22⟩ : RSX ρ ws_483 ty_484 f9 rd krd tp ktp cd bb tl (nxF f9 tl ts) T nk fr fk fp vl) ) (cwV 0 hts gX4_readTest_X4_failHere rfl rfl rfl (by decide +kernel) ⟨Nat.le_of_ble_eq_true rfl, Nat.le_of_ble_eq_true rfl⟩) ⟨fun a U g mk q => by obtain ⟨q0, q1, qP, qK, qD, qS⟩ := q; exact ⟨q0, q1, qP, va_K.moved (u := U) (U := U.calling g mk a) (Vm.Alike.refl U.vm) qK, qD, SZ.same rfl rfl qS⟩, va_recv hK hP (ci := 4) (q0 := krd) rfl e_488, fun U hU hW => ⟨rfl, by rw [hU], by rw [hU]; exact hP, va_K.moved hW.alike hK, hD.weaken (fun _ _ _ _ => trivial), hsz9.go hS hW hU hFc⟩⟩ rfl rfl hl.1 rfl (lv_room (Nat.le_of_ble_eq_true rfl)) dX4_readTest_88 ⟨Nat.le_of_ble_eq_true rfl, Nat.le_of_ble_eq_true rfl⟩) hS (fun q _ h => hFc q h) hFc (fun r_497 u t H1 locs ht hvm w_498 hB hz1 hk1 hS => ?_)
        subst w_498
        obtain ⟨ws_499, ty_500, hm_501, ht_503, hP1, hK1, hD1, hx_502⟩ := hB
        rw [ht] at hP1
        have hK := va_K.moved hvm.symm hK1
        have hD := hD1.weaken (fun _ _ _ h => hFc _ h)
        generalize H1 = H at hP1 hS ⊢
        have hP := hP1
        obtain ⟨g_505, e_504, h_506⟩ := hm_501.obj e_488
        obtain ⟨z_507, z_508, z_509, z_510, z_511, z_512, rfl⟩ := smX4 h_506
        obtain ⟨g_514, e_513, h_515⟩ := hm_501.obj e_489
        obtain ⟨z_516, z_517, z_518, z_519, rfl⟩ := smX6 h_515
        obtain ⟨f_521, e_520⟩ := hm_501.arrI e_490
        have u_522 := ht_503 _ _ u_492
        have e_523 := hm_501.keep (by rw [wb_21]; omega) e_491
        have u_524 := ht_503 _ _ u_493
        have hsm := hsm.tr (hm_501.mono (by decide))
        have htx := htx.tr ht_503
        obtain ⟨rfl, hR_525⟩ := hx_502
        obtain ⟨kc_526, cc_527, tc_528, fc_529, kb_530, cb_531, tb_532, fb_533, hp_534, hT_535, er_536, et_537, wr_538, wt_539, ec_540, uc_541, wc_542, hc_543, eb_544, ub_545, wb_546, hb_547⟩ := id hR_525
        have hp_5341 := hp_534.1
        have hp_534t := teF_le (f := f9) hp_534.1
        exact W.zret (v := 0) hx hb hr rfl (fun t ht hW => ⟨⟨0, 0, rfl, rfl, ws_499, ty_500, hsm, htx, by rw [ht]; exact hP, va_K.moved hW.alike hK, hD, ⟨1, nxF f9 tl ts, 1, 0, 0, Or.inr ⟨nxF f9 tl ts, (Or.inr (Or.inl ⟨by omega, by omega, rfl, rfl, by omega⟩) : whtR f9 tl ts 0 (nxF f9 tl ts) 1), Or.inl ⟨by omega, rfl, rfl⟩⟩, Or.inl ⟨rfl, by omega, by omega, _, _, (⟨kc_526, cc_527, tc_528, fc_529, kb_530, cb_531, tb_532, fb_533, hp_534, hT_535, er_536, et_537, wr_538, wt_539, ec_540, uc_541, wc_542, hc_543, eb_544, ub_545, wb_546, hb_547⟩ : RSX ρ ws_499 ty_500 f9 rd krd tp ktp cd bb tl (nxF f9 tl ts) T nk fr 1 (nI (nxF f9 tl ts)) vl)⟩⟩⟩, hS.F ht⟩) hS.2.2 dX4_readTest_91
      have iw_495 : wdE f9 tl (nxF f9 tl ts) = 9 := iw_495
      refine lv_if_ne (tgt := 92) hx hb dX4_readTest_84 (by decide) (fun c_548 => ?_) (fun c_548 => absurd c_548 (by decide))
      refine lv_aload_n hx hb dX4_readTest_92 rfl (lv_at hl 2 rfl) ?_
      refine va_get (D := D) (ci := 4) (v := .ref tp) (C := RX4) (T := TX4) (N := 8) hx hb hts hin4 hown hK hP krd e_488 rfl 0 (by decide) (hts (.fieldLink RX4 12 "HoneyHouse$RuleReader" "tape" "LHoneyHouse$Tape;") (List.mem_of_getElem? (i := 1) rfl)) (fun _ h9 => h9) rfl dX4_readTest_93 ?_
      have hFc := free_all hD hS hA
      refine va_callv (va_runV (As := []) (rest := []) ⟨hx, hb, hml, hown, hts⟩ (a_advance l D (rz [ktp]) ws_483 ty_484 f9 tp ktp tl (teF f9 tl (nxF f9 tl ts)) (nI (kdF f9 tl (nxF f9 tl ts))) (nI (nxF f9 tl ts)) bb kb_5 cb_6 tb_7 fb_8 H.size htl hb_22 hng (by omega) e_489 e_491 u_493 (rz_o1 (pl_ne e_491 e_489 (by intro h9; simp at h9))) (rz_in (by simp))) (cwV 0 hts gX4_readTest_X6_advance rfl rfl rfl (by decide +kernel) ⟨Nat.le_of_ble_eq_true rfl, Nat.le_of_ble_eq_true rfl⟩) ⟨fun a U g mk q => by obtain ⟨q0, q1, qP, qK, qD⟩ := q; exact ⟨q0, q1, qP, va_K.moved (u := U) (U := U.calling g mk a) (Vm.Alike.refl U.vm) qK, qD⟩, va_recv hK hP (ci := 6) (q0 := ktp) rfl e_489, fun U hU hW => ⟨rfl, by rw [hU], by rw [hU]; exact hP, va_K.moved hW.alike hK, hD.weaken (fun _ _ _ _ => trivial)⟩⟩ rfl rfl hl.1 rfl (lv_room (Nat.le_of_ble_eq_true rfl)) dX4_readTest_96 ⟨Nat.le_of_ble_eq_true rfl, Nat.le_of_ble_eq_true rfl⟩) hS (fun q _ h => hFc q h) hFc (fun u t H1 locs ht hvm w_550 hB hz1 hk1 hS => ?_)
      obtain ⟨ws_551, ty_552, hm_553, ht_555, hP1, hK1, hD1, hx_554⟩ := hB
      rw [ht] at hP1
      have hK := va_K.moved hvm.symm hK1
      have hD := hD1.weaken (fun _ _ _ h => hFc _ h)
      generalize H1 = H at hP1 hS ⊢
      have hP := hP1
      have e_556 := hm_553.keep (rz_o1 (pl_ne e_488 e_489 (by intro h9; simp at h9))) e_488
      have e_557 := hm_553.keep (rz_o1 (pl_ne e_490 e_489 (by intro h9; simp at h9))) e_490
      have e_558 := hm_553.keep (rz_o1 (pl_ne e_491 e_489 (by intro h9; simp at h9))) e_491
      have u_559 := ht_555 _ _ u_492
      have u_560 := ht_555 _ _ u_493
      have hm_561 : sm ρ [6] ws_483 ws_551 := hm_553.up (fun k _ h => rz_u1 wt_14 k h)
      have hsm := hsm.tr (hm_561.mono (by decide))
      have htx := htx.tr ht_555
      have e_562 : ws_551[ktp]? = some (tp, .inr (6, [.int (nI tl), .int (nI (kdF f9 tl (nxF f9 tl (nxF f9 tl ts)))), .int (nI (nxF f9 tl (nxF f9 tl ts))), .int (nI (teF f9 tl (nxF f9 tl (nxF f9 tl ts)))), .ref bb])) := hx_554; have hq_563 : pcB f9 tl (nxF f9 tl (nxF f9 tl ts)) := nxF_pc (f := f9) hq_461.1; have hq_5631 := hq_563.1; have hq_563t := teF_le (f := f9) hq_563.1; have hg_564 := nx_gain (f := f9) hq_461.1
      refine lv_aload_n hx hb dX4_readTest_99 rfl (lv_at hl 2 rfl) ?_
      refine lv_sipush (v := 1000) hx hb dX4_readTest_100 (by decide) ?_
      have hFc := free_all hD hS hA
      refine va_calli (va_runV (As := [.int 1000]) (rest := []) ⟨hx, hb, hml, hown, hts⟩ (r_readNumber l D ρ ws_551 ty_552 adK adV fo f9 rd krd tp ktp cd bb tl (nxF f9 tl (nxF f9 tl ts)) T nk fr fk fp vl 1000 H.size htl hng (⟨kc_1, cc_2, tc_3, fc_4, kb_5, cb_6, tb_7, fb_8, hq_563, hT_10, e_556, e_562, wr_13, wt_14, e_557, u_559, wc_17, hc_18, e_558, u_560, wb_21, hb_22⟩ : RSX ρ ws_551 ty_552 f9 rd krd tp ktp cd bb tl (nxF f9 tl (nxF f9 tl ts)) T nk fr fk fp vl) (by omega)) (cwV 1 hts gX4_readTest_X4_readNumber rfl rfl rfl (by decide +kernel) ⟨Nat.le_of_ble_eq_true rfl, Nat.le_of_ble_eq_true rfl⟩) ⟨fun a U g mk q => by obtain ⟨q0, q1, qP, qK, qD, qS⟩ := q; exact ⟨q0, q1, qP, va_K.moved (u := U) (U := U.calling g mk a) (Vm.Alike.refl U.vm) qK, qD, SZ.same rfl rfl qS⟩, va_recv hK hP (ci := 4) (q0 := krd) rfl e_556, fun U hU hW => ⟨rfl, by rw [hU], by rw [hU]; exact hP, va_K.moved hW.alike hK, hD.weaken (fun _ _ _ _ => trivial), hsz9.go hS hW hU hFc⟩⟩ rfl rfl hl.1 rfl (lv_room (Nat.le_of_ble_eq_true rfl)) dX4_readTest_103 ⟨Nat.le_of_ble_eq_true rfl, Nat.le_of_ble_eq_true rfl⟩) hS (fun q _ h => hFc q h) hFc (fun r_565 u t H1 locs ht hvm w_566 hB hz1 hk1 hS => ?_)
      subst w_566
      obtain ⟨ws_567, ty_568, hm_569, ht_571, hP1, hK1, hD1, hx_570⟩ := hB
      rw [ht] at hP1
      have hK := va_K.moved hvm.symm hK1
      have hD := hD1.weaken (fun _ _ _ h => hFc _ h)
      generalize H1 = H at hP1 hS ⊢
      have hP := hP1
      obtain ⟨g_573, e_572, h_574⟩ := hm_569.obj e_556
      obtain ⟨z_575, z_576, z_577, z_578, z_579, z_580, rfl⟩ := smX4 h_574
      obtain ⟨g_582, e_581, h_583⟩ := hm_569.obj e_562
      obtain ⟨z_584, z_585, z_586, z_587, rfl⟩ := smX6 h_583
      obtain ⟨f_589, e_588⟩ := hm_569.arrI e_557
      have u_590 := ht_571 _ _ u_559
      have e_591 := hm_569.keep (by rw [wb_21]; omega) e_558
      have u_592 := ht_571 _ _ u_560
      have hsm := hsm.tr (hm_569.mono (by decide))
      have htx := htx.tr ht_571
      obtain ⟨k_593, p_594, v_595, hn_596, ⟨rfl, hk_597, hk_598, vl_599, hR_600⟩ | ⟨rfl, hk_597, hR_600⟩⟩ := hx_570
      · obtain ⟨kc_601, cc_602, tc_603, fc_604, kb_605, cb_606, tb_607, fb_608, hp_609, hT_610, er_611, et_612, wr_613, wt_614, ec_615, uc_616, wc_617, hc_618, eb_619, ub_620, wb_621, hb_622⟩ := id hR_600
        have hp_6091 := hp_609.1
        have hp_609t := teF_le (f := f9) hp_609.1
        refine lv_if_ne (tgt := 111) hx hb dX4_readTest_106 (by decide) (fun c_623 => absurd (by decide) c_623) (fun c_623 => ?_)
        refine lv_iconst (v := 0) hx hb dX4_readTest_109 (by decide) ?_
        exact W.zret (v := 0) hx hb hr rfl (fun t ht hW => ⟨⟨0, 0, rfl, rfl, ws_567, ty_568, hsm, htx, by rw [ht]; exact hP, va_K.moved hW.alike hK, hD, ⟨k_593, p_594, 1, 9, v_595, Or.inr ⟨nxF f9 tl ts, (Or.inr (Or.inl ⟨by omega, by omega, rfl, rfl, by omega⟩) : whtR f9 tl ts 0 (nxF f9 tl ts) 1), Or.inr ⟨by omega, by omega, hn_596⟩⟩, Or.inl ⟨rfl, hk_597, by omega, _, _, (⟨kc_601, cc_602, tc_603, fc_604, kb_605, cb_606, tb_607, fb_608, hp_609, hT_610, er_611, et_612, wr_613, wt_614, ec_615, uc_616, wc_617, hc_618, eb_619, ub_620, wb_621, hb_622⟩ : RSX ρ ws_567 ty_568 f9 rd krd tp ktp cd bb tl (nxF f9 tl (nxF f9 tl ts)) T nk fr (nI k_593) (nI p_594) vl_599)⟩⟩⟩, hS.F ht⟩) hS.2.2 dX4_readTest_110
      subst hk_597
      obtain ⟨kc_624, cc_625, tc_626, fc_627, kb_628, cb_629, tb_630, fb_631, hp_632, hT_633, er_634, et_635, wr_636, wt_637, ec_638, uc_639, wc_640, hc_641, eb_642, ub_643, wb_644, hb_645⟩ := id hR_600
      have hp_6321 := hp_632.1
      have hp_632t := teF_le (f := f9) hp_632.1
      refine lv_if_ne (tgt := 111) hx hb dX4_readTest_106 (by decide) (fun c_646 => ?_) (fun c_646 => absurd c_646 (by decide))
      have hg8 := tst_gain (Or.inr ⟨nxF f9 tl ts, (Or.inr (Or.inl ⟨by omega, by omega, rfl, rfl, by omega⟩) : whtR f9 tl ts 0 (nxF f9 tl ts) 1), Or.inr ⟨by omega, by omega, hn_596⟩⟩ : tstR f9 tl ts 0 p_594 1 9 v_595) hp_91
      refine lv_aload_n hx hb dX4_readTest_111 rfl (lv_at hl 2 rfl) ?_
      refine lv_iload_n hx hb dX4_readTest_112 rfl (lv_at hl 1 rfl) ?_
      refine lv_iload_n hx hb dX4_readTest_113 rfl (lv_at hl 0 rfl) ?_
      refine lv_aload_n hx hb dX4_readTest_114 rfl (lv_at hl 2 rfl) ?_
      refine va_get (D := D) (ci := 4) (v := .int (nI v_595)) (C := RX4) (T := TX4) (N := 8) hx hb hts hin4 hown hK hP krd er_634 rfl 7 (by decide) (hts (.fieldLink RX4 56 "HoneyHouse$RuleReader" "value" "I") (List.mem_of_getElem? (i := 2) rfl)) (fun _ h9 => h9) rfl dX4_readTest_115 ?_
      refine vp_callSi (W.runS (As := [.int 1, .int 0, .int (nI v_595)]) (rest := [.ref rd]) ⟨hx, hb, hml, hown, hts⟩ (s_testCode0 l 1 v_595) (va_cwS 3 hts gX4_readTest_X4_testCode rfl rfl rfl (by decide +kernel) ⟨Nat.le_of_ble_eq_true rfl, Nat.le_of_ble_eq_true rfl⟩) ⟨fun a U g mk q => q, fun U hU hW => ⟨rfl, trivial⟩⟩ rfl rfl hl.1 rfl (lv_room (Nat.le_of_ble_eq_true rfl)) dX4_readTest_118 ⟨Nat.le_of_ble_eq_true rfl, Nat.le_of_ble_eq_true rfl⟩) (fun r_647 k_648 => ?_)
      have hFc := free_all hD hS hA
      refine va_callv (va_runV (As := [.int r_647]) (rest := []) ⟨hx, hb, hml, hown, hts⟩ (r_addCode l D ρ ws_567 ty_568 adK adV fo f9 rd krd tp ktp cd bb tl p_594 T nk fr fk fp (nI v_595) (13, 1, 9, v_595) r_647 H.size htl hng (⟨kc_624, cc_625, tc_626, fc_627, kb_628, cb_629, tb_630, fb_631, hp_632, hT_633, er_634, et_635, wr_636, wt_637, ec_638, uc_639, wc_640, hc_641, eb_642, ub_643, wb_644, hb_645⟩ : RSX ρ ws_567 ty_568 f9 rd krd tp ktp cd bb tl p_594 T nk fr fk fp (nI v_595)) k_648) (cwV 1 hts gX4_readTest_X4_addCode rfl rfl rfl (by decide +kernel) ⟨Nat.le_of_ble_eq_true rfl, Nat.le_of_ble_eq_true rfl⟩) ⟨fun a U g mk q => by obtain ⟨q0, q1, qP, qK, qD, qS⟩ := q; exact ⟨q0, q1, qP, va_K.moved (u := U) (U := U.calling g mk a) (Vm.Alike.refl U.vm) qK, qD, SZ.same rfl rfl qS⟩, va_recv hK hP (ci := 4) (q0 := krd) rfl er_634, fun U hU hW => ⟨rfl, by rw [hU], by rw [hU]; exact hP, va_K.moved hW.alike hK, hD.weaken (fun _ _ _ _ => trivial), hsz9.go hS hW hU hFc⟩⟩ rfl rfl hl.1 rfl (lv_room (Nat.le_of_ble_eq_true rfl)) dX4_readTest_121 ⟨Nat.le_of_ble_eq_true rfl, Nat.le_of_ble_eq_true rfl⟩) hS (fun q _ h => hFc q h) hFc (fun u t H1 locs ht hvm w_650 hB hz1 hk1 hS => ?_)
      obtain ⟨ws_651, ty_652, hm_653, ht_655, hP1, hK1, hD1, hx_654⟩ := hB
      rw [ht] at hP1
      have hK := va_K.moved hvm.symm hK1
      have hD := hD1.weaken (fun _ _ _ h => hFc _ h)
      generalize H1 = H at hP1 hS ⊢
      have hP := hP1
      obtain ⟨g_657, e_656, h_658⟩ := hm_653.obj er_634
      obtain ⟨z_659, z_660, z_661, z_662, z_663, z_664, rfl⟩ := smX4 h_658
      obtain ⟨g_666, e_665, h_667⟩ := hm_653.obj et_635
      obtain ⟨z_668, z_669, z_670, z_671, rfl⟩ := smX6 h_667
      obtain ⟨f_673, e_672⟩ := hm_653.arrI ec_638
      have u_674 := ht_655 _ _ uc_639
      have e_675 := hm_653.keep (by rw [wb_644]; omega) eb_642
      have u_676 := ht_655 _ _ ub_643
      have hsm := hsm.tr (hm_653.mono (by decide))
      have htx := htx.tr ht_655
      obtain ⟨hl_677, hR_678⟩ := hx_654.resolve_right (fun h9 => h9.1 (by omega))
      obtain ⟨kc_679, cc_680, tc_681, fc_682, kb_683, cb_684, tb_685, fb_686, hp_687, hT_688, er_689, et_690, wr_691, wt_692, ec_693, uc_694, wc_695, hc_696, eb_697, ub_698, wb_699, hb_700⟩ := id hR_678
      have hp_6871 := hp_687.1
      have hp_687t := teF_le (f := f9) hp_687.1
      refine lv_iconst (v := 1) hx hb dX4_readTest_124 (by decide) ?_
      have ht9 : tstR f9 tl ts 0 p_594 1 9 v_595 := Or.inr ⟨nxF f9 tl ts, (Or.inr (Or.inl ⟨by omega, by omega, rfl, rfl, by omega⟩) : whtR f9 tl ts 0 (nxF f9 tl ts) 1), Or.inr ⟨by omega, by omega, hn_596⟩⟩
      have hg9 := tst_gain ht9 hp_91
      exact W.zret (v := 1) hx hb hr rfl (fun t ht hW => ⟨⟨1, 1, rfl, rfl, ws_651, ty_652, hsm, htx, by rw [ht]; exact hP, va_K.moved hW.alike hK, hD, ⟨0, p_594, 1, 9, v_595, ht9, Or.inr ⟨rfl, rfl, by omega, _, (⟨kc_679, cc_680, tc_681, fc_682, kb_683, cb_684, tb_685, fb_686, hp_687, hT_688, er_689, et_690, wr_691, wt_692, ec_693, uc_694, wc_695, hc_696, eb_697, ub_698, wb_699, hb_700⟩ : RSX ρ ws_651 ty_652 f9 rd krd tp ktp cd bb tl p_594 (T ++ [(13, 1, 9, v_595)]) nk fr fk fp (nI v_595))⟩⟩⟩, hS.F ht⟩) hS.2.2 dX4_readTest_125
    have iw_479 : wdE f9 tl (nxF f9 tl ts) = 10 := iw_479
    refine lv_istore_n (lv' := [(2, .int 1), (1, .int 1), (0, .ref rd)]) hx hb dX4_readTest_70 rfl hl (by decide) rfl (fun ls hl => ?_)
    refine lv_iload_n hx hb dX4_readTest_71 rfl (lv_at hl 0 rfl) ?_
    refine lv_if_ne (tgt := 92) hx hb dX4_readTest_72 (by decide) (fun c_701 => ?_) (fun c_701 => absurd c_701 (by decide))
    refine lv_aload_n hx hb dX4_readTest_92 rfl (lv_at hl 2 rfl) ?_
    refine va_get (D := D) (ci := 4) (v := .ref tp) (C := RX4) (T := TX4) (N := 8) hx hb hts hin4 hown hK hP krd e_472 rfl 0 (by decide) (hts (.fieldLink RX4 12 "HoneyHouse$RuleReader" "tape" "LHoneyHouse$Tape;") (List.mem_of_getElem? (i := 1) rfl)) (fun _ h9 => h9) rfl dX4_readTest_93 ?_
    have hFc := free_all hD hS hA
    refine va_callv (va_runV (As := []) (rest := []) ⟨hx, hb, hml, hown, hts⟩ (a_advance l D (rz [ktp]) ws_467 ty_468 f9 tp ktp tl (teF f9 tl (nxF f9 tl ts)) (nI (kdF f9 tl (nxF f9 tl ts))) (nI (nxF f9 tl ts)) bb kb_5 cb_6 tb_7 fb_8 H.size htl hb_22 hng (by omega) e_473 e_475 u_477 (rz_o1 (pl_ne e_475 e_473 (by intro h9; simp at h9))) (rz_in (by simp))) (cwV 0 hts gX4_readTest_X6_advance rfl rfl rfl (by decide +kernel) ⟨Nat.le_of_ble_eq_true rfl, Nat.le_of_ble_eq_true rfl⟩) ⟨fun a U g mk q => by obtain ⟨q0, q1, qP, qK, qD⟩ := q; exact ⟨q0, q1, qP, va_K.moved (u := U) (U := U.calling g mk a) (Vm.Alike.refl U.vm) qK, qD⟩, va_recv hK hP (ci := 6) (q0 := ktp) rfl e_473, fun U hU hW => ⟨rfl, by rw [hU], by rw [hU]; exact hP, va_K.moved hW.alike hK, hD.weaken (fun _ _ _ _ => trivial)⟩⟩ rfl rfl hl.1 rfl (lv_room (Nat.le_of_ble_eq_true rfl)) dX4_readTest_96 ⟨Nat.le_of_ble_eq_true rfl, Nat.le_of_ble_eq_true rfl⟩) hS (fun q _ h => hFc q h) hFc (fun u t H1 locs ht hvm w_703 hB hz1 hk1 hS => ?_)
    obtain ⟨ws_704, ty_705, hm_706, ht_708, hP1, hK1, hD1, hx_707⟩ := hB
    rw [ht] at hP1
    have hK := va_K.moved hvm.symm hK1
    have hD := hD1.weaken (fun _ _ _ h => hFc _ h)
    generalize H1 = H at hP1 hS ⊢
    have hP := hP1
    have e_709 := hm_706.keep (rz_o1 (pl_ne e_472 e_473 (by intro h9; simp at h9))) e_472
    have e_710 := hm_706.keep (rz_o1 (pl_ne e_474 e_473 (by intro h9; simp at h9))) e_474
    have e_711 := hm_706.keep (rz_o1 (pl_ne e_475 e_473 (by intro h9; simp at h9))) e_475
    have u_712 := ht_708 _ _ u_476
    have u_713 := ht_708 _ _ u_477
    have hm_714 : sm ρ [6] ws_467 ws_704 := hm_706.up (fun k _ h => rz_u1 wt_14 k h)
    have hsm := hsm.tr (hm_714.mono (by decide))
    have htx := htx.tr ht_708
    have e_715 : ws_704[ktp]? = some (tp, .inr (6, [.int (nI tl), .int (nI (kdF f9 tl (nxF f9 tl (nxF f9 tl ts)))), .int (nI (nxF f9 tl (nxF f9 tl ts))), .int (nI (teF f9 tl (nxF f9 tl (nxF f9 tl ts)))), .ref bb])) := hx_707; have hq_716 : pcB f9 tl (nxF f9 tl (nxF f9 tl ts)) := nxF_pc (f := f9) hq_461.1; have hq_7161 := hq_716.1; have hq_716t := teF_le (f := f9) hq_716.1; have hg_717 := nx_gain (f := f9) hq_461.1
    refine lv_aload_n hx hb dX4_readTest_99 rfl (lv_at hl 2 rfl) ?_
    refine lv_sipush (v := 1000) hx hb dX4_readTest_100 (by decide) ?_
    have hFc := free_all hD hS hA
    refine va_calli (va_runV (As := [.int 1000]) (rest := []) ⟨hx, hb, hml, hown, hts⟩ (r_readNumber l D ρ ws_704 ty_705 adK adV fo f9 rd krd tp ktp cd bb tl (nxF f9 tl (nxF f9 tl ts)) T nk fr fk fp vl 1000 H.size htl hng (⟨kc_1, cc_2, tc_3, fc_4, kb_5, cb_6, tb_7, fb_8, hq_716, hT_10, e_709, e_715, wr_13, wt_14, e_710, u_712, wc_17, hc_18, e_711, u_713, wb_21, hb_22⟩ : RSX ρ ws_704 ty_705 f9 rd krd tp ktp cd bb tl (nxF f9 tl (nxF f9 tl ts)) T nk fr fk fp vl) (by omega)) (cwV 1 hts gX4_readTest_X4_readNumber rfl rfl rfl (by decide +kernel) ⟨Nat.le_of_ble_eq_true rfl, Nat.le_of_ble_eq_true rfl⟩) ⟨fun a U g mk q => by obtain ⟨q0, q1, qP, qK, qD, qS⟩ := q; exact ⟨q0, q1, qP, va_K.moved (u := U) (U := U.calling g mk a) (Vm.Alike.refl U.vm) qK, qD, SZ.same rfl rfl qS⟩, va_recv hK hP (ci := 4) (q0 := krd) rfl e_709, fun U hU hW => ⟨rfl, by rw [hU], by rw [hU]; exact hP, va_K.moved hW.alike hK, hD.weaken (fun _ _ _ _ => trivial), hsz9.go hS hW hU hFc⟩⟩ rfl rfl hl.1 rfl (lv_room (Nat.le_of_ble_eq_true rfl)) dX4_readTest_103 ⟨Nat.le_of_ble_eq_true rfl, Nat.le_of_ble_eq_true rfl⟩) hS (fun q _ h => hFc q h) hFc (fun r_718 u t H1 locs ht hvm w_719 hB hz1 hk1 hS => ?_)
    subst w_719
    obtain ⟨ws_720, ty_721, hm_722, ht_724, hP1, hK1, hD1, hx_723⟩ := hB
    rw [ht] at hP1
    have hK := va_K.moved hvm.symm hK1
    have hD := hD1.weaken (fun _ _ _ h => hFc _ h)
    generalize H1 = H at hP1 hS ⊢
    have hP := hP1
    obtain ⟨g_726, e_725, h_727⟩ := hm_722.obj e_709
    obtain ⟨z_728, z_729, z_730, z_731, z_732, z_733, rfl⟩ := smX4 h_727
    obtain ⟨g_735, e_734, h_736⟩ := hm_722.obj e_715
    obtain ⟨z_737, z_738, z_739, z_740, rfl⟩ := smX6 h_736
    obtain ⟨f_742, e_741⟩ := hm_722.arrI e_710
    have u_743 := ht_724 _ _ u_712
    have e_744 := hm_722.keep (by rw [wb_21]; omega) e_711
    have u_745 := ht_724 _ _ u_713
    have hsm := hsm.tr (hm_722.mono (by decide))
    have htx := htx.tr ht_724
    obtain ⟨k_746, p_747, v_748, hn_749, ⟨rfl, hk_750, hk_751, vl_752, hR_753⟩ | ⟨rfl, hk_750, hR_753⟩⟩ := hx_723
    · obtain ⟨kc_754, cc_755, tc_756, fc_757, kb_758, cb_759, tb_760, fb_761, hp_762, hT_763, er_764, et_765, wr_766, wt_767, ec_768, uc_769, wc_770, hc_771, eb_772, ub_773, wb_774, hb_775⟩ := id hR_753
      have hp_7621 := hp_762.1
      have hp_762t := teF_le (f := f9) hp_762.1
      refine lv_if_ne (tgt := 111) hx hb dX4_readTest_106 (by decide) (fun c_776 => absurd (by decide) c_776) (fun c_776 => ?_)
      refine lv_iconst (v := 0) hx hb dX4_readTest_109 (by decide) ?_
      exact W.zret (v := 0) hx hb hr rfl (fun t ht hW => ⟨⟨0, 0, rfl, rfl, ws_720, ty_721, hsm, htx, by rw [ht]; exact hP, va_K.moved hW.alike hK, hD, ⟨k_746, p_747, 1, 10, v_748, Or.inr ⟨nxF f9 tl ts, (Or.inr (Or.inl ⟨by omega, by omega, rfl, rfl, by omega⟩) : whtR f9 tl ts 0 (nxF f9 tl ts) 1), Or.inr ⟨by omega, by omega, hn_749⟩⟩, Or.inl ⟨rfl, hk_750, by omega, _, _, (⟨kc_754, cc_755, tc_756, fc_757, kb_758, cb_759, tb_760, fb_761, hp_762, hT_763, er_764, et_765, wr_766, wt_767, ec_768, uc_769, wc_770, hc_771, eb_772, ub_773, wb_774, hb_775⟩ : RSX ρ ws_720 ty_721 f9 rd krd tp ktp cd bb tl (nxF f9 tl (nxF f9 tl ts)) T nk fr (nI k_746) (nI p_747) vl_752)⟩⟩⟩, hS.F ht⟩) hS.2.2 dX4_readTest_110
    subst hk_750
    obtain ⟨kc_777, cc_778, tc_779, fc_780, kb_781, cb_782, tb_783, fb_784, hp_785, hT_786, er_787, et_788, wr_789, wt_790, ec_791, uc_792, wc_793, hc_794, eb_795, ub_796, wb_797, hb_798⟩ := id hR_753
    have hp_7851 := hp_785.1
    have hp_785t := teF_le (f := f9) hp_785.1
    refine lv_if_ne (tgt := 111) hx hb dX4_readTest_106 (by decide) (fun c_799 => ?_) (fun c_799 => absurd c_799 (by decide))
    have hg8 := tst_gain (Or.inr ⟨nxF f9 tl ts, (Or.inr (Or.inl ⟨by omega, by omega, rfl, rfl, by omega⟩) : whtR f9 tl ts 0 (nxF f9 tl ts) 1), Or.inr ⟨by omega, by omega, hn_749⟩⟩ : tstR f9 tl ts 0 p_747 1 10 v_748) hp_91
    refine lv_aload_n hx hb dX4_readTest_111 rfl (lv_at hl 2 rfl) ?_
    refine lv_iload_n hx hb dX4_readTest_112 rfl (lv_at hl 1 rfl) ?_
    refine lv_iload_n hx hb dX4_readTest_113 rfl (lv_at hl 0 rfl) ?_
    refine lv_aload_n hx hb dX4_readTest_114 rfl (lv_at hl 2 rfl) ?_
    refine va_get (D := D) (ci := 4) (v := .int (nI v_748)) (C := RX4) (T := TX4) (N := 8) hx hb hts hin4 hown hK hP krd er_787 rfl 7 (by decide) (hts (.fieldLink RX4 56 "HoneyHouse$RuleReader" "value" "I") (List.mem_of_getElem? (i := 2) rfl)) (fun _ h9 => h9) rfl dX4_readTest_115 ?_
    refine vp_callSi (W.runS (As := [.int 1, .int 1, .int (nI v_748)]) (rest := [.ref rd]) ⟨hx, hb, hml, hown, hts⟩ (s_testCode1 l 1 v_748) (va_cwS 3 hts gX4_readTest_X4_testCode rfl rfl rfl (by decide +kernel) ⟨Nat.le_of_ble_eq_true rfl, Nat.le_of_ble_eq_true rfl⟩) ⟨fun a U g mk q => q, fun U hU hW => ⟨rfl, trivial⟩⟩ rfl rfl hl.1 rfl (lv_room (Nat.le_of_ble_eq_true rfl)) dX4_readTest_118 ⟨Nat.le_of_ble_eq_true rfl, Nat.le_of_ble_eq_true rfl⟩) (fun r_800 k_801 => ?_)
    have hFc := free_all hD hS hA
    refine va_callv (va_runV (As := [.int r_800]) (rest := []) ⟨hx, hb, hml, hown, hts⟩ (r_addCode l D ρ ws_720 ty_721 adK adV fo f9 rd krd tp ktp cd bb tl p_747 T nk fr fk fp (nI v_748) (13, 1, 10, v_748) r_800 H.size htl hng (⟨kc_777, cc_778, tc_779, fc_780, kb_781, cb_782, tb_783, fb_784, hp_785, hT_786, er_787, et_788, wr_789, wt_790, ec_791, uc_792, wc_793, hc_794, eb_795, ub_796, wb_797, hb_798⟩ : RSX ρ ws_720 ty_721 f9 rd krd tp ktp cd bb tl p_747 T nk fr fk fp (nI v_748)) k_801) (cwV 1 hts gX4_readTest_X4_addCode rfl rfl rfl (by decide +kernel) ⟨Nat.le_of_ble_eq_true rfl, Nat.le_of_ble_eq_true rfl⟩) ⟨fun a U g mk q => by obtain ⟨q0, q1, qP, qK, qD, qS⟩ := q; exact ⟨q0, q1, qP, va_K.moved (u := U) (U := U.calling g mk a) (Vm.Alike.refl U.vm) qK, qD, SZ.same rfl rfl qS⟩, va_recv hK hP (ci := 4) (q0 := krd) rfl er_787, fun U hU hW => ⟨rfl, by rw [hU], by rw [hU]; exact hP, va_K.moved hW.alike hK, hD.weaken (fun _ _ _ _ => trivial), hsz9.go hS hW hU hFc⟩⟩ rfl rfl hl.1 rfl (lv_room (Nat.le_of_ble_eq_true rfl)) dX4_readTest_121 ⟨Nat.le_of_ble_eq_true rfl, Nat.le_of_ble_eq_true rfl⟩) hS (fun q _ h => hFc q h) hFc (fun u t H1 locs ht hvm w_803 hB hz1 hk1 hS => ?_)
    obtain ⟨ws_804, ty_805, hm_806, ht_808, hP1, hK1, hD1, hx_807⟩ := hB
    rw [ht] at hP1
    have hK := va_K.moved hvm.symm hK1
    have hD := hD1.weaken (fun _ _ _ h => hFc _ h)
    generalize H1 = H at hP1 hS ⊢
    have hP := hP1
    obtain ⟨g_810, e_809, h_811⟩ := hm_806.obj er_787
    obtain ⟨z_812, z_813, z_814, z_815, z_816, z_817, rfl⟩ := smX4 h_811
    obtain ⟨g_819, e_818, h_820⟩ := hm_806.obj et_788
    obtain ⟨z_821, z_822, z_823, z_824, rfl⟩ := smX6 h_820
    obtain ⟨f_826, e_825⟩ := hm_806.arrI ec_791
    have u_827 := ht_808 _ _ uc_792
    have e_828 := hm_806.keep (by rw [wb_797]; omega) eb_795
    have u_829 := ht_808 _ _ ub_796
    have hsm := hsm.tr (hm_806.mono (by decide))
    have htx := htx.tr ht_808
    obtain ⟨hl_830, hR_831⟩ := hx_807.resolve_right (fun h9 => h9.1 (by omega))
    obtain ⟨kc_832, cc_833, tc_834, fc_835, kb_836, cb_837, tb_838, fb_839, hp_840, hT_841, er_842, et_843, wr_844, wt_845, ec_846, uc_847, wc_848, hc_849, eb_850, ub_851, wb_852, hb_853⟩ := id hR_831
    have hp_8401 := hp_840.1
    have hp_840t := teF_le (f := f9) hp_840.1
    refine lv_iconst (v := 1) hx hb dX4_readTest_124 (by decide) ?_
    have ht9 : tstR f9 tl ts 0 p_747 1 10 v_748 := Or.inr ⟨nxF f9 tl ts, (Or.inr (Or.inl ⟨by omega, by omega, rfl, rfl, by omega⟩) : whtR f9 tl ts 0 (nxF f9 tl ts) 1), Or.inr ⟨by omega, by omega, hn_749⟩⟩
    have hg9 := tst_gain ht9 hp_91
    exact W.zret (v := 1) hx hb hr rfl (fun t ht hW => ⟨⟨1, 1, rfl, rfl, ws_804, ty_805, hsm, htx, by rw [ht]; exact hP, va_K.moved hW.alike hK, hD, ⟨0, p_747, 1, 10, v_748, ht9, Or.inr ⟨rfl, rfl, by omega, _, (⟨kc_832, cc_833, tc_834, fc_835, kb_836, cb_837, tb_838, fb_839, hp_840, hT_841, er_842, et_843, wr_844, wt_845, ec_846, uc_847, wc_848, hc_849, eb_850, ub_851, wb_852, hb_853⟩ : RSX ρ ws_804 ty_805 f9 rd krd tp ktp cd bb tl p_747 (T ++ [(13, 1, 10, v_748)]) nk fr fk fp (nI v_748))⟩⟩⟩, hS.F ht⟩) hS.2.2 dX4_readTest_125
  · refine lv_istore_n (lv' := [(1, .int 2), (0, .ref rd)]) hx hb dX4_readTest_4 rfl hl (by decide) rfl (fun ls hl => ?_)
    refine lv_iload_n hx hb dX4_readTest_5 rfl (lv_at hl 0 rfl) ?_
    refine lv_iconst (v := (-1)) hx hb dX4_readTest_6 (by decide) ?_
    refine lv_icmp_ne (tgt := 15) hx hb dX4_readTest_7 (by decide) (fun c_854 => ?_) (fun c_854 => absurd c_854 (by decide))
    refine lv_aload_n hx hb dX4_readTest_15 rfl (lv_at hl 1 rfl) ?_
    refine va_get (D := D) (ci := 4) (v := .ref tp) (C := RX4) (T := TX4) (N := 8) hx hb hts hin4 hown hK hP krd e_30 rfl 0 (by decide) (hts (.fieldLink RX4 12 "HoneyHouse$RuleReader" "tape" "LHoneyHouse$Tape;") (List.mem_of_getElem? (i := 1) rfl)) (fun _ h9 => h9) rfl dX4_readTest_16 ?_
    have hFc := free_all hD hS hA
    refine va_callv (va_runV (As := []) (rest := []) ⟨hx, hb, hml, hown, hts⟩ (a_advance l D (rz [ktp]) ws_25 ty_26 f9 tp ktp tl (teF f9 tl ts) (nI (kdF f9 tl ts)) (nI ts) bb kb_5 cb_6 tb_7 fb_8 H.size htl hb_22 hng (by omega) e_31 e_33 u_35 (rz_o1 (pl_ne e_33 e_31 (by intro h9; simp at h9))) (rz_in (by simp))) (cwV 0 hts gX4_readTest_X6_advance rfl rfl rfl (by decide +kernel) ⟨Nat.le_of_ble_eq_true rfl, Nat.le_of_ble_eq_true rfl⟩) ⟨fun a U g mk q => by obtain ⟨q0, q1, qP, qK, qD⟩ := q; exact ⟨q0, q1, qP, va_K.moved (u := U) (U := U.calling g mk a) (Vm.Alike.refl U.vm) qK, qD⟩, va_recv hK hP (ci := 6) (q0 := ktp) rfl e_31, fun U hU hW => ⟨rfl, by rw [hU], by rw [hU]; exact hP, va_K.moved hW.alike hK, hD.weaken (fun _ _ _ _ => trivial)⟩⟩ rfl rfl hl.1 rfl (lv_room (Nat.le_of_ble_eq_true rfl)) dX4_readTest_19 ⟨Nat.le_of_ble_eq_true rfl, Nat.le_of_ble_eq_true rfl⟩) hS (fun q _ h => hFc q h) hFc (fun u t H1 locs ht hvm w_856 hB hz1 hk1 hS => ?_)
    obtain ⟨ws_857, ty_858, hm_859, ht_861, hP1, hK1, hD1, hx_860⟩ := hB
    rw [ht] at hP1
    have hK := va_K.moved hvm.symm hK1
    have hD := hD1.weaken (fun _ _ _ h => hFc _ h)
    generalize H1 = H at hP1 hS ⊢
    have hP := hP1
    have e_862 := hm_859.keep (rz_o1 (pl_ne e_30 e_31 (by intro h9; simp at h9))) e_30
    have e_863 := hm_859.keep (rz_o1 (pl_ne e_32 e_31 (by intro h9; simp at h9))) e_32
    have e_864 := hm_859.keep (rz_o1 (pl_ne e_33 e_31 (by intro h9; simp at h9))) e_33
    have u_865 := ht_861 _ _ u_34
    have u_866 := ht_861 _ _ u_35
    have hm_867 : sm ρ [6] ws_25 ws_857 := hm_859.up (fun k _ h => rz_u1 wt_14 k h)
    have hsm := hsm.tr (hm_867.mono (by decide))
    have htx := htx.tr ht_861
    have e_868 : ws_857[ktp]? = some (tp, .inr (6, [.int (nI tl), .int (nI (kdF f9 tl (nxF f9 tl ts))), .int (nI (nxF f9 tl ts)), .int (nI (teF f9 tl (nxF f9 tl ts))), .ref bb])) := hx_860; have hq_869 : pcB f9 tl (nxF f9 tl ts) := nxF_pc (f := f9) hp_9.1; have hq_8691 := hq_869.1; have hq_869t := teF_le (f := f9) hq_869.1; have hg_870 := nx_gain (f := f9) hp_9.1
    refine lv_iload_n hx hb dX4_readTest_22 rfl (lv_at hl 0 rfl) ?_
    refine lv_bipush (v := 10) hx hb dX4_readTest_23 (by decide) ?_
    refine lv_icmp_eq (tgt := 34) hx hb dX4_readTest_25 (by decide) (fun c_871 => absurd c_871 (by decide)) (fun c_871 => ?_)
    refine lv_iload_n hx hb dX4_readTest_28 rfl (lv_at hl 0 rfl) ?_
    refine lv_bipush (v := 30) hx hb dX4_readTest_29 (by decide) ?_
    refine lv_icmp_ne (tgt := 61) hx hb dX4_readTest_31 (by decide) (fun c_872 => ?_) (fun c_872 => absurd c_872 (by decide))
    refine lv_aload_n hx hb dX4_readTest_61 rfl (lv_at hl 1 rfl) ?_
    refine va_get (D := D) (ci := 4) (v := .ref tp) (C := RX4) (T := TX4) (N := 8) hx hb hts hin4 hown hK hP krd e_862 rfl 0 (by decide) (hts (.fieldLink RX4 12 "HoneyHouse$RuleReader" "tape" "LHoneyHouse$Tape;") (List.mem_of_getElem? (i := 1) rfl)) (fun _ h9 => h9) rfl dX4_readTest_62 ?_
    refine va_ldcS hx hb hown hsz9.2.2.2.2.2.2.2.2.1 dX4_readTest_65 ?_
    have hFc := free_all hD hS hA
    refine va_calli (va_runV (As := [.ref (adK 5)]) (rest := []) ⟨hx, hb, hml, hown, hts⟩ (a_isWord l D (rz []) ws_857 ty_858 adK adV fo 5 f9 tp ktp tl (nxF f9 tl ts) bb kb_5 cb_6 tb_7 fb_8 H.size (by decide) htl hb_22 hng hq_869 e_868 e_864 u_866 rz_o0) (cwV 1 hts gX4_readTest_X6_isWord rfl rfl rfl (by decide +kernel) ⟨Nat.le_of_ble_eq_true rfl, Nat.le_of_ble_eq_true rfl⟩) ⟨fun a U g mk q => by obtain ⟨q0, q1, qP, qK, qD, qS⟩ := q; exact ⟨q0, q1, qP, va_K.moved (u := U) (U := U.calling g mk a) (Vm.Alike.refl U.vm) qK, qD, SZ.same rfl rfl qS⟩, va_recv hK hP (ci := 6) (q0 := ktp) rfl e_868, fun U hU hW => ⟨rfl, by rw [hU], by rw [hU]; exact hP, va_K.moved hW.alike hK, hD.weaken (fun _ _ _ _ => trivial), hsz9.go hS hW hU hFc⟩⟩ rfl rfl hl.1 rfl (lv_room (Nat.le_of_ble_eq_true rfl)) dX4_readTest_67 ⟨Nat.le_of_ble_eq_true rfl, Nat.le_of_ble_eq_true rfl⟩) hS (fun q _ h => hFc q h) hFc (fun r_873 u t H1 locs ht hvm w_874 hB hz1 hk1 hS => ?_)
    obtain ⟨ws_875, ty_876, hm_877, ht_879, hP1, hK1, hD1, hx_878⟩ := hB
    rw [ht] at hP1
    have hK := va_K.moved hvm.symm hK1
    have hD := hD1.weaken (fun _ _ _ h => hFc _ h)
    generalize H1 = H at hP1 hS ⊢
    have hP := hP1
    have e_880 := hm_877.keep rz_o0 e_862
    have e_881 := hm_877.keep rz_o0 e_868
    have e_882 := hm_877.keep rz_o0 e_863
    have e_883 := hm_877.keep rz_o0 e_864
    have u_884 := ht_879 _ _ u_865
    have u_885 := ht_879 _ _ u_866
    have hm_886 : sm ρ [] ws_857 ws_875 := hm_877.up (fun k _ h => rz_u0  k h)
    have hsm := hsm.tr (hm_886.mono (by decide))
    have htx := htx.tr ht_879
    rcases w_874 with ⟨rfl, iw_887⟩ | ⟨rfl, iw_887⟩
    · have iw_887 : ¬ wdE f9 tl (nxF f9 tl ts) = 10 := iw_887
      refine lv_istore_n (lv' := [(2, .int 0), (1, .int 2), (0, .ref rd)]) hx hb dX4_readTest_70 rfl hl (by decide) rfl (fun ls hl => ?_)
      refine lv_iload_n hx hb dX4_readTest_71 rfl (lv_at hl 0 rfl) ?_
      refine lv_if_ne (tgt := 92) hx hb dX4_readTest_72 (by decide) (fun c_888 => absurd (by decide) c_888) (fun c_888 => ?_)
      refine lv_aload_n hx hb dX4_readTest_75 rfl (lv_at hl 2 rfl) ?_
      refine va_get (D := D) (ci := 4) (v := .ref tp) (C := RX4) (T := TX4) (N := 8) hx hb hts hin4 hown hK hP krd e_880 rfl 0 (by decide) (hts (.fieldLink RX4 12 "HoneyHouse$RuleReader" "tape" "LHoneyHouse$Tape;") (List.mem_of_getElem? (i := 1) rfl)) (fun _ h9 => h9) rfl dX4_readTest_76 ?_
      refine va_ldcS hx hb hown hsz9.2.2.2.2.2.2.2.1 dX4_readTest_79 ?_
      have hFc := free_all hD hS hA
      refine va_calli (va_runV (As := [.ref (adK 4)]) (rest := []) ⟨hx, hb, hml, hown, hts⟩ (a_isWord l D (rz []) ws_875 ty_876 adK adV fo 4 f9 tp ktp tl (nxF f9 tl ts) bb kb_5 cb_6 tb_7 fb_8 H.size (by decide) htl hb_22 hng hq_869 e_881 e_883 u_885 rz_o0) (cwV 1 hts gX4_readTest_X6_isWord rfl rfl rfl (by decide +kernel) ⟨Nat.le_of_ble_eq_true rfl, Nat.le_of_ble_eq_true rfl⟩) ⟨fun a U g mk q => by obtain ⟨q0, q1, qP, qK, qD, qS⟩ := q; exact ⟨q0, q1, qP, va_K.moved (u := U) (U := U.calling g mk a) (Vm.Alike.refl U.vm) qK, qD, SZ.same rfl rfl qS⟩, va_recv hK hP (ci := 6) (q0 := ktp) rfl e_881, fun U hU hW => ⟨rfl, by rw [hU], by rw [hU]; exact hP, va_K.moved hW.alike hK, hD.weaken (fun _ _ _ _ => trivial), hsz9.go hS hW hU hFc⟩⟩ rfl rfl hl.1 rfl (lv_room (Nat.le_of_ble_eq_true rfl)) dX4_readTest_81 ⟨Nat.le_of_ble_eq_true rfl, Nat.le_of_ble_eq_true rfl⟩) hS (fun q _ h => hFc q h) hFc (fun r_889 u t H1 locs ht hvm w_890 hB hz1 hk1 hS => ?_)
      obtain ⟨ws_891, ty_892, hm_893, ht_895, hP1, hK1, hD1, hx_894⟩ := hB
      rw [ht] at hP1
      have hK := va_K.moved hvm.symm hK1
      have hD := hD1.weaken (fun _ _ _ h => hFc _ h)
      generalize H1 = H at hP1 hS ⊢
      have hP := hP1
      have e_896 := hm_893.keep rz_o0 e_880
      have e_897 := hm_893.keep rz_o0 e_881
      have e_898 := hm_893.keep rz_o0 e_882
      have e_899 := hm_893.keep rz_o0 e_883
      have u_900 := ht_895 _ _ u_884
      have u_901 := ht_895 _ _ u_885
      have hm_902 : sm ρ [] ws_875 ws_891 := hm_893.up (fun k _ h => rz_u0  k h)
      have hsm := hsm.tr (hm_902.mono (by decide))
      have htx := htx.tr ht_895
      rcases w_890 with ⟨rfl, iw_903⟩ | ⟨rfl, iw_903⟩
      · have iw_903 : ¬ wdE f9 tl (nxF f9 tl ts) = 9 := iw_903
        refine lv_if_ne (tgt := 92) hx hb dX4_readTest_84 (by decide) (fun c_904 => absurd (by decide) c_904) (fun c_904 => ?_)
        refine lv_aload_n hx hb dX4_readTest_87 rfl (lv_at hl 2 rfl) ?_
        have hFc := free_all hD hS hA
        refine va_calli (va_runV (As := []) (rest := []) ⟨hx, hb, hml, hown, hts⟩ (r_failHere l D ρ ws_891 ty_892 adK adV fo f9 rd krd tp ktp cd bb tl (nxF f9 tl ts) T nk fr fk fp vl  H.size htl hng (⟨kc_1, cc_2, tc_3, fc_4, kb_5, cb_6, tb_7, fb_8, hq_869, hT_10, e_896, e_897, wr_13, wt_14, e_898, u_900, wc_17, hc_18, e_899, u_901, wb_21, hb_22⟩ : RSX ρ ws_891 ty_892 f9 rd krd tp ktp cd bb tl (nxF f9 tl ts) T nk fr fk fp vl) ) (cwV 0 hts gX4_readTest_X4_failHere rfl rfl rfl (by decide +kernel) ⟨Nat.le_of_ble_eq_true rfl, Nat.le_of_ble_eq_true rfl⟩) ⟨fun a U g mk q => by obtain ⟨q0, q1, qP, qK, qD, qS⟩ := q; exact ⟨q0, q1, qP, va_K.moved (u := U) (U := U.calling g mk a) (Vm.Alike.refl U.vm) qK, qD, SZ.same rfl rfl qS⟩, va_recv hK hP (ci := 4) (q0 := krd) rfl e_896, fun U hU hW => ⟨rfl, by rw [hU], by rw [hU]; exact hP, va_K.moved hW.alike hK, hD.weaken (fun _ _ _ _ => trivial), hsz9.go hS hW hU hFc⟩⟩ rfl rfl hl.1 rfl (lv_room (Nat.le_of_ble_eq_true rfl)) dX4_readTest_88 ⟨Nat.le_of_ble_eq_true rfl, Nat.le_of_ble_eq_true rfl⟩) hS (fun q _ h => hFc q h) hFc (fun r_905 u t H1 locs ht hvm w_906 hB hz1 hk1 hS => ?_)
        subst w_906
        obtain ⟨ws_907, ty_908, hm_909, ht_911, hP1, hK1, hD1, hx_910⟩ := hB
        rw [ht] at hP1
        have hK := va_K.moved hvm.symm hK1
        have hD := hD1.weaken (fun _ _ _ h => hFc _ h)
        generalize H1 = H at hP1 hS ⊢
        have hP := hP1
        obtain ⟨g_913, e_912, h_914⟩ := hm_909.obj e_896
        obtain ⟨z_915, z_916, z_917, z_918, z_919, z_920, rfl⟩ := smX4 h_914
        obtain ⟨g_922, e_921, h_923⟩ := hm_909.obj e_897
        obtain ⟨z_924, z_925, z_926, z_927, rfl⟩ := smX6 h_923
        obtain ⟨f_929, e_928⟩ := hm_909.arrI e_898
        have u_930 := ht_911 _ _ u_900
        have e_931 := hm_909.keep (by rw [wb_21]; omega) e_899
        have u_932 := ht_911 _ _ u_901
        have hsm := hsm.tr (hm_909.mono (by decide))
        have htx := htx.tr ht_911
        obtain ⟨rfl, hR_933⟩ := hx_910
        obtain ⟨kc_934, cc_935, tc_936, fc_937, kb_938, cb_939, tb_940, fb_941, hp_942, hT_943, er_944, et_945, wr_946, wt_947, ec_948, uc_949, wc_950, hc_951, eb_952, ub_953, wb_954, hb_955⟩ := id hR_933
        have hp_9421 := hp_942.1
        have hp_942t := teF_le (f := f9) hp_942.1
        exact W.zret (v := 0) hx hb hr rfl (fun t ht hW => ⟨⟨0, 0, rfl, rfl, ws_907, ty_908, hsm, htx, by rw [ht]; exact hP, va_K.moved hW.alike hK, hD, ⟨1, nxF f9 tl ts, 2, 0, 0, Or.inr ⟨nxF f9 tl ts, (Or.inr (Or.inl ⟨by omega, by omega, rfl, rfl, by omega⟩) : whtR f9 tl ts 0 (nxF f9 tl ts) 2), Or.inl ⟨by omega, rfl, rfl⟩⟩, Or.inl ⟨rfl, by omega, by omega, _, _, (⟨kc_934, cc_935, tc_936, fc_937, kb_938, cb_939, tb_940, fb_941, hp_942, hT_943, er_944, et_945, wr_946, wt_947, ec_948, uc_949, wc_950, hc_951, eb_952, ub_953, wb_954, hb_955⟩ : RSX ρ ws_907 ty_908 f9 rd krd tp ktp cd bb tl (nxF f9 tl ts) T nk fr 1 (nI (nxF f9 tl ts)) vl)⟩⟩⟩, hS.F ht⟩) hS.2.2 dX4_readTest_91
      have iw_903 : wdE f9 tl (nxF f9 tl ts) = 9 := iw_903
      refine lv_if_ne (tgt := 92) hx hb dX4_readTest_84 (by decide) (fun c_956 => ?_) (fun c_956 => absurd c_956 (by decide))
      refine lv_aload_n hx hb dX4_readTest_92 rfl (lv_at hl 2 rfl) ?_
      refine va_get (D := D) (ci := 4) (v := .ref tp) (C := RX4) (T := TX4) (N := 8) hx hb hts hin4 hown hK hP krd e_896 rfl 0 (by decide) (hts (.fieldLink RX4 12 "HoneyHouse$RuleReader" "tape" "LHoneyHouse$Tape;") (List.mem_of_getElem? (i := 1) rfl)) (fun _ h9 => h9) rfl dX4_readTest_93 ?_
      have hFc := free_all hD hS hA
      refine va_callv (va_runV (As := []) (rest := []) ⟨hx, hb, hml, hown, hts⟩ (a_advance l D (rz [ktp]) ws_891 ty_892 f9 tp ktp tl (teF f9 tl (nxF f9 tl ts)) (nI (kdF f9 tl (nxF f9 tl ts))) (nI (nxF f9 tl ts)) bb kb_5 cb_6 tb_7 fb_8 H.size htl hb_22 hng (by omega) e_897 e_899 u_901 (rz_o1 (pl_ne e_899 e_897 (by intro h9; simp at h9))) (rz_in (by simp))) (cwV 0 hts gX4_readTest_X6_advance rfl rfl rfl (by decide +kernel) ⟨Nat.le_of_ble_eq_true rfl, Nat.le_of_ble_eq_true rfl⟩) ⟨fun a U g mk q => by obtain ⟨q0, q1, qP, qK, qD⟩ := q; exact ⟨q0, q1, qP, va_K.moved (u := U) (U := U.calling g mk a) (Vm.Alike.refl U.vm) qK, qD⟩, va_recv hK hP (ci := 6) (q0 := ktp) rfl e_897, fun U hU hW => ⟨rfl, by rw [hU], by rw [hU]; exact hP, va_K.moved hW.alike hK, hD.weaken (fun _ _ _ _ => trivial)⟩⟩ rfl rfl hl.1 rfl (lv_room (Nat.le_of_ble_eq_true rfl)) dX4_readTest_96 ⟨Nat.le_of_ble_eq_true rfl, Nat.le_of_ble_eq_true rfl⟩) hS (fun q _ h => hFc q h) hFc (fun u t H1 locs ht hvm w_958 hB hz1 hk1 hS => ?_)
      obtain ⟨ws_959, ty_960, hm_961, ht_963, hP1, hK1, hD1, hx_962⟩ := hB
      rw [ht] at hP1
      have hK := va_K.moved hvm.symm hK1
      have hD := hD1.weaken (fun _ _ _ h => hFc _ h)
      generalize H1 = H at hP1 hS ⊢
      have hP := hP1
      have e_964 := hm_961.keep (rz_o1 (pl_ne e_896 e_897 (by intro h9; simp at h9))) e_896
      have e_965 := hm_961.keep (rz_o1 (pl_ne e_898 e_897 (by intro h9; simp at h9))) e_898
      have e_966 := hm_961.keep (rz_o1 (pl_ne e_899 e_897 (by intro h9; simp at h9))) e_899
      have u_967 := ht_963 _ _ u_900
      have u_968 := ht_963 _ _ u_901
      have hm_969 : sm ρ [6] ws_891 ws_959 := hm_961.up (fun k _ h => rz_u1 wt_14 k h)
      have hsm := hsm.tr (hm_969.mono (by decide))
      have htx := htx.tr ht_963
      have e_970 : ws_959[ktp]? = some (tp, .inr (6, [.int (nI tl), .int (nI (kdF f9 tl (nxF f9 tl (nxF f9 tl ts)))), .int (nI (nxF f9 tl (nxF f9 tl ts))), .int (nI (teF f9 tl (nxF f9 tl (nxF f9 tl ts)))), .ref bb])) := hx_962; have hq_971 : pcB f9 tl (nxF f9 tl (nxF f9 tl ts)) := nxF_pc (f := f9) hq_869.1; have hq_9711 := hq_971.1; have hq_971t := teF_le (f := f9) hq_971.1; have hg_972 := nx_gain (f := f9) hq_869.1
      refine lv_aload_n hx hb dX4_readTest_99 rfl (lv_at hl 2 rfl) ?_
      refine lv_sipush (v := 1000) hx hb dX4_readTest_100 (by decide) ?_
      have hFc := free_all hD hS hA
      refine va_calli (va_runV (As := [.int 1000]) (rest := []) ⟨hx, hb, hml, hown, hts⟩ (r_readNumber l D ρ ws_959 ty_960 adK adV fo f9 rd krd tp ktp cd bb tl (nxF f9 tl (nxF f9 tl ts)) T nk fr fk fp vl 1000 H.size htl hng (⟨kc_1, cc_2, tc_3, fc_4, kb_5, cb_6, tb_7, fb_8, hq_971, hT_10, e_964, e_970, wr_13, wt_14, e_965, u_967, wc_17, hc_18, e_966, u_968, wb_21, hb_22⟩ : RSX ρ ws_959 ty_960 f9 rd krd tp ktp cd bb tl (nxF f9 tl (nxF f9 tl ts)) T nk fr fk fp vl) (by omega)) (cwV 1 hts gX4_readTest_X4_readNumber rfl rfl rfl (by decide +kernel) ⟨Nat.le_of_ble_eq_true rfl, Nat.le_of_ble_eq_true rfl⟩) ⟨fun a U g mk q => by obtain ⟨q0, q1, qP, qK, qD, qS⟩ := q; exact ⟨q0, q1, qP, va_K.moved (u := U) (U := U.calling g mk a) (Vm.Alike.refl U.vm) qK, qD, SZ.same rfl rfl qS⟩, va_recv hK hP (ci := 4) (q0 := krd) rfl e_964, fun U hU hW => ⟨rfl, by rw [hU], by rw [hU]; exact hP, va_K.moved hW.alike hK, hD.weaken (fun _ _ _ _ => trivial), hsz9.go hS hW hU hFc⟩⟩ rfl rfl hl.1 rfl (lv_room (Nat.le_of_ble_eq_true rfl)) dX4_readTest_103 ⟨Nat.le_of_ble_eq_true rfl, Nat.le_of_ble_eq_true rfl⟩) hS (fun q _ h => hFc q h) hFc (fun r_973 u t H1 locs ht hvm w_974 hB hz1 hk1 hS => ?_)
      subst w_974
      obtain ⟨ws_975, ty_976, hm_977, ht_979, hP1, hK1, hD1, hx_978⟩ := hB
      rw [ht] at hP1
      have hK := va_K.moved hvm.symm hK1
      have hD := hD1.weaken (fun _ _ _ h => hFc _ h)
      generalize H1 = H at hP1 hS ⊢
      have hP := hP1
      obtain ⟨g_981, e_980, h_982⟩ := hm_977.obj e_964
      obtain ⟨z_983, z_984, z_985, z_986, z_987, z_988, rfl⟩ := smX4 h_982
      obtain ⟨g_990, e_989, h_991⟩ := hm_977.obj e_970
      obtain ⟨z_992, z_993, z_994, z_995, rfl⟩ := smX6 h_991
      obtain ⟨f_997, e_996⟩ := hm_977.arrI e_965
      have u_998 := ht_979 _ _ u_967
      have e_999 := hm_977.keep (by rw [wb_21]; omega) e_966
      have u_1000 := ht_979 _ _ u_968
      have hsm := hsm.tr (hm_977.mono (by decide))
      have htx := htx.tr ht_979
      obtain ⟨k_1001, p_1002, v_1003, hn_1004, ⟨rfl, hk_1005, hk_1006, vl_1007, hR_1008⟩ | ⟨rfl, hk_1005, hR_1008⟩⟩ := hx_978
      · obtain ⟨kc_1009, cc_1010, tc_1011, fc_1012, kb_1013, cb_1014, tb_1015, fb_1016, hp_1017, hT_1018, er_1019, et_1020, wr_1021, wt_1022, ec_1023, uc_1024, wc_1025, hc_1026, eb_1027, ub_1028, wb_1029, hb_1030⟩ := id hR_1008
        have hp_10171 := hp_1017.1
        have hp_1017t := teF_le (f := f9) hp_1017.1
        refine lv_if_ne (tgt := 111) hx hb dX4_readTest_106 (by decide) (fun c_1031 => absurd (by decide) c_1031) (fun c_1031 => ?_)
        refine lv_iconst (v := 0) hx hb dX4_readTest_109 (by decide) ?_
        exact W.zret (v := 0) hx hb hr rfl (fun t ht hW => ⟨⟨0, 0, rfl, rfl, ws_975, ty_976, hsm, htx, by rw [ht]; exact hP, va_K.moved hW.alike hK, hD, ⟨k_1001, p_1002, 2, 9, v_1003, Or.inr ⟨nxF f9 tl ts, (Or.inr (Or.inl ⟨by omega, by omega, rfl, rfl, by omega⟩) : whtR f9 tl ts 0 (nxF f9 tl ts) 2), Or.inr ⟨by omega, by omega, hn_1004⟩⟩, Or.inl ⟨rfl, hk_1005, by omega, _, _, (⟨kc_1009, cc_1010, tc_1011, fc_1012, kb_1013, cb_1014, tb_1015, fb_1016, hp_1017, hT_1018, er_1019, et_1020, wr_1021, wt_1022, ec_1023, uc_1024, wc_1025, hc_1026, eb_1027, ub_1028, wb_1029, hb_1030⟩ : RSX ρ ws_975 ty_976 f9 rd krd tp ktp cd bb tl (nxF f9 tl (nxF f9 tl ts)) T nk fr (nI k_1001) (nI p_1002) vl_1007)⟩⟩⟩, hS.F ht⟩) hS.2.2 dX4_readTest_110
      subst hk_1005
      obtain ⟨kc_1032, cc_1033, tc_1034, fc_1035, kb_1036, cb_1037, tb_1038, fb_1039, hp_1040, hT_1041, er_1042, et_1043, wr_1044, wt_1045, ec_1046, uc_1047, wc_1048, hc_1049, eb_1050, ub_1051, wb_1052, hb_1053⟩ := id hR_1008
      have hp_10401 := hp_1040.1
      have hp_1040t := teF_le (f := f9) hp_1040.1
      refine lv_if_ne (tgt := 111) hx hb dX4_readTest_106 (by decide) (fun c_1054 => ?_) (fun c_1054 => absurd c_1054 (by decide))
      have hg8 := tst_gain (Or.inr ⟨nxF f9 tl ts, (Or.inr (Or.inl ⟨by omega, by omega, rfl, rfl, by omega⟩) : whtR f9 tl ts 0 (nxF f9 tl ts) 2), Or.inr ⟨by omega, by omega, hn_1004⟩⟩ : tstR f9 tl ts 0 p_1002 2 9 v_1003) hp_91
      refine lv_aload_n hx hb dX4_readTest_111 rfl (lv_at hl 2 rfl) ?_
      refine lv_iload_n hx hb dX4_readTest_112 rfl (lv_at hl 1 rfl) ?_
      refine lv_iload_n hx hb dX4_readTest_113 rfl (lv_at hl 0 rfl) ?_
      refine lv_aload_n hx hb dX4_readTest_114 rfl (lv_at hl 2 rfl) ?_
      refine va_get (D := D) (ci := 4) (v := .int (nI v_1003)) (C := RX4) (T := TX4) (N := 8) hx hb hts hin4 hown hK hP krd er_1042 rfl 7 (by decide) (hts (.fieldLink RX4 56 "HoneyHouse$RuleReader" "value" "I") (List.mem_of_getElem? (i := 2) rfl)) (fun _ h9 => h9) rfl dX4_readTest_115 ?_
      refine vp_callSi (W.runS (As := [.int 2, .int 0, .int (nI v_1003)]) (rest := [.ref rd]) ⟨hx, hb, hml, hown, hts⟩ (s_testCode0 l 2 v_1003) (va_cwS 3 hts gX4_readTest_X4_testCode rfl rfl rfl (by decide +kernel) ⟨Nat.le_of_ble_eq_true rfl, Nat.le_of_ble_eq_true rfl⟩) ⟨fun a U g mk q => q, fun U hU hW => ⟨rfl, trivial⟩⟩ rfl rfl hl.1 rfl (lv_room (Nat.le_of_ble_eq_true rfl)) dX4_readTest_118 ⟨Nat.le_of_ble_eq_true rfl, Nat.le_of_ble_eq_true rfl⟩) (fun r_1055 k_1056 => ?_)
      have hFc := free_all hD hS hA
      refine va_callv (va_runV (As := [.int r_1055]) (rest := []) ⟨hx, hb, hml, hown, hts⟩ (r_addCode l D ρ ws_975 ty_976 adK adV fo f9 rd krd tp ktp cd bb tl p_1002 T nk fr fk fp (nI v_1003) (13, 2, 9, v_1003) r_1055 H.size htl hng (⟨kc_1032, cc_1033, tc_1034, fc_1035, kb_1036, cb_1037, tb_1038, fb_1039, hp_1040, hT_1041, er_1042, et_1043, wr_1044, wt_1045, ec_1046, uc_1047, wc_1048, hc_1049, eb_1050, ub_1051, wb_1052, hb_1053⟩ : RSX ρ ws_975 ty_976 f9 rd krd tp ktp cd bb tl p_1002 T nk fr fk fp (nI v_1003)) k_1056) (cwV 1 hts gX4_readTest_X4_addCode rfl rfl rfl (by decide +kernel) ⟨Nat.le_of_ble_eq_true rfl, Nat.le_of_ble_eq_true rfl⟩) ⟨fun a U g mk q => by obtain ⟨q0, q1, qP, qK, qD, qS⟩ := q; exact ⟨q0, q1, qP, va_K.moved (u := U) (U := U.calling g mk a) (Vm.Alike.refl U.vm) qK, qD, SZ.same rfl rfl qS⟩, va_recv hK hP (ci := 4) (q0 := krd) rfl er_1042, fun U hU hW => ⟨rfl, by rw [hU], by rw [hU]; exact hP, va_K.moved hW.alike hK, hD.weaken (fun _ _ _ _ => trivial), hsz9.go hS hW hU hFc⟩⟩ rfl rfl hl.1 rfl (lv_room (Nat.le_of_ble_eq_true rfl)) dX4_readTest_121 ⟨Nat.le_of_ble_eq_true rfl, Nat.le_of_ble_eq_true rfl⟩) hS (fun q _ h => hFc q h) hFc (fun u t H1 locs ht hvm w_1058 hB hz1 hk1 hS => ?_)
      obtain ⟨ws_1059, ty_1060, hm_1061, ht_1063, hP1, hK1, hD1, hx_1062⟩ := hB
      rw [ht] at hP1
      have hK := va_K.moved hvm.symm hK1
      have hD := hD1.weaken (fun _ _ _ h => hFc _ h)
      generalize H1 = H at hP1 hS ⊢
      have hP := hP1
      obtain ⟨g_1065, e_1064, h_1066⟩ := hm_1061.obj er_1042
      obtain ⟨z_1067, z_1068, z_1069, z_1070, z_1071, z_1072, rfl⟩ := smX4 h_1066
      obtain ⟨g_1074, e_1073, h_1075⟩ := hm_1061.obj et_1043
      obtain ⟨z_1076, z_1077, z_1078, z_1079, rfl⟩ := smX6 h_1075
      obtain ⟨f_1081, e_1080⟩ := hm_1061.arrI ec_1046
      have u_1082 := ht_1063 _ _ uc_1047
      have e_1083 := hm_1061.keep (by rw [wb_1052]; omega) eb_1050
      have u_1084 := ht_1063 _ _ ub_1051
      have hsm := hsm.tr (hm_1061.mono (by decide))
      have htx := htx.tr ht_1063
      obtain ⟨hl_1085, hR_1086⟩ := hx_1062.resolve_right (fun h9 => h9.1 (by omega))
      obtain ⟨kc_1087, cc_1088, tc_1089, fc_1090, kb_1091, cb_1092, tb_1093, fb_1094, hp_1095, hT_1096, er_1097, et_1098, wr_1099, wt_1100, ec_1101, uc_1102, wc_1103, hc_1104, eb_1105, ub_1106, wb_1107, hb_1108⟩ := id hR_1086
      have hp_10951 := hp_1095.1
      have hp_1095t := teF_le (f := f9) hp_1095.1
      refine lv_iconst (v := 1) hx hb dX4_readTest_124 (by decide) ?_
      have ht9 : tstR f9 tl ts 0 p_1002 2 9 v_1003 := Or.inr ⟨nxF f9 tl ts, (Or.inr (Or.inl ⟨by omega, by omega, rfl, rfl, by omega⟩) : whtR f9 tl ts 0 (nxF f9 tl ts) 2), Or.inr ⟨by omega, by omega, hn_1004⟩⟩
      have hg9 := tst_gain ht9 hp_91
      exact W.zret (v := 1) hx hb hr rfl (fun t ht hW => ⟨⟨1, 1, rfl, rfl, ws_1059, ty_1060, hsm, htx, by rw [ht]; exact hP, va_K.moved hW.alike hK, hD, ⟨0, p_1002, 2, 9, v_1003, ht9, Or.inr ⟨rfl, rfl, by omega, _, (⟨kc_1087, cc_1088, tc_1089, fc_1090, kb_1091, cb_1092, tb_1093, fb_1094, hp_1095, hT_1096, er_1097, et_1098, wr_1099, wt_1100, ec_1101, uc_1102, wc_1103, hc_1104, eb_1105, ub_1106, wb_1107, hb_1108⟩ : RSX ρ ws_1059 ty_1060 f9 rd krd tp ktp cd bb tl p_1002 (T ++ [(13, 2, 9, v_1003)]) nk fr fk fp (nI v_1003))⟩⟩⟩, hS.F ht⟩) hS.2.2 dX4_readTest_125
    have iw_887 : wdE f9 tl (nxF f9 tl ts) = 10 := iw_887
    refine lv_istore_n (lv' := [(2, .int 1), (1, .int 2), (0, .ref rd)]) hx hb dX4_readTest_70 rfl hl (by decide) rfl (fun ls hl => ?_)
    refine lv_iload_n hx hb dX4_readTest_71 rfl (lv_at hl 0 rfl) ?_
    refine lv_if_ne (tgt := 92) hx hb dX4_readTest_72 (by decide) (fun c_1109 => ?_) (fun c_1109 => absurd c_1109 (by decide))
    refine lv_aload_n hx hb dX4_readTest_92 rfl (lv_at hl 2 rfl) ?_
    refine va_get (D := D) (ci := 4) (v := .ref tp) (C := RX4) (T := TX4) (N := 8) hx hb hts hin4 hown hK hP krd e_880 rfl 0 (by decide) (hts (.fieldLink RX4 12 "HoneyHouse$RuleReader" "tape" "LHoneyHouse$Tape;") (List.mem_of_getElem? (i := 1) rfl)) (fun _ h9 => h9) rfl dX4_readTest_93 ?_
    have hFc := free_all hD hS hA
    refine va_callv (va_runV (As := []) (rest := []) ⟨hx, hb, hml, hown, hts⟩ (a_advance l D (rz [ktp]) ws_875 ty_876 f9 tp ktp tl (teF f9 tl (nxF f9 tl ts)) (nI (kdF f9 tl (nxF f9 tl ts))) (nI (nxF f9 tl ts)) bb kb_5 cb_6 tb_7 fb_8 H.size htl hb_22 hng (by omega) e_881 e_883 u_885 (rz_o1 (pl_ne e_883 e_881 (by intro h9; simp at h9))) (rz_in (by simp))) (cwV 0 hts gX4_readTest_X6_advance rfl rfl rfl (by decide +kernel) ⟨Nat.le_of_ble_eq_true rfl, Nat.le_of_ble_eq_true rfl⟩) ⟨fun a U g mk q => by obtain ⟨q0, q1, qP, qK, qD⟩ := q; exact ⟨q0, q1, qP, va_K.moved (u := U) (U := U.calling g mk a) (Vm.Alike.refl U.vm) qK, qD⟩, va_recv hK hP (ci := 6) (q0 := ktp) rfl e_881, fun U hU hW => ⟨rfl, by rw [hU], by rw [hU]; exact hP, va_K.moved hW.alike hK, hD.weaken (fun _ _ _ _ => trivial)⟩⟩ rfl rfl hl.1 rfl (lv_room (Nat.le_of_ble_eq_true rfl)) dX4_readTest_96 ⟨Nat.le_of_ble_eq_true rfl, Nat.le_of_ble_eq_true rfl⟩) hS (fun q _ h => hFc q h) hFc (fun u t H1 locs ht hvm w_1111 hB hz1 hk1 hS => ?_)
    obtain ⟨ws_1112, ty_1113, hm_1114, ht_1116, hP1, hK1, hD1, hx_1115⟩ := hB
    rw [ht] at hP1
    have hK := va_K.moved hvm.symm hK1
    have hD := hD1.weaken (fun _ _ _ h => hFc _ h)
    generalize H1 = H at hP1 hS ⊢
    have hP := hP1
    have e_1117 := hm_1114.keep (rz_o1 (pl_ne e_880 e_881 (by intro h9; simp at h9))) e_880
    have e_1118 := hm_1114.keep (rz_o1 (pl_ne e_882 e_881 (by intro h9; simp at h9))) e_882
    have e_1119 := hm_1114.keep (rz_o1 (pl_ne e_883 e_881 (by intro h9; simp at h9))) e_883
    have u_1120 := ht_1116 _ _ u_884
    have u_1121 := ht_1116 _ _ u_885
    have hm_1122 : sm ρ [6] ws_875 ws_1112 := hm_1114.up (fun k _ h => rz_u1 wt_14 k h)
    have hsm := hsm.tr (hm_1122.mono (by decide))
    have htx := htx.tr ht_1116
    have e_1123 : ws_1112[ktp]? = some (tp, .inr (6, [.int (nI tl), .int (nI (kdF f9 tl (nxF f9 tl (nxF f9 tl ts)))), .int (nI (nxF f9 tl (nxF f9 tl ts))), .int (nI (teF f9 tl (nxF f9 tl (nxF f9 tl ts)))), .ref bb])) := hx_1115; have hq_1124 : pcB f9 tl (nxF f9 tl (nxF f9 tl ts)) := nxF_pc (f := f9) hq_869.1; have hq_11241 := hq_1124.1; have hq_1124t := teF_le (f := f9) hq_1124.1; have hg_1125 := nx_gain (f := f9) hq_869.1
    refine lv_aload_n hx hb dX4_readTest_99 rfl (lv_at hl 2 rfl) ?_
    refine lv_sipush (v := 1000) hx hb dX4_readTest_100 (by decide) ?_
    have hFc := free_all hD hS hA
    refine va_calli (va_runV (As := [.int 1000]) (rest := []) ⟨hx, hb, hml, hown, hts⟩ (r_readNumber l D ρ ws_1112 ty_1113 adK adV fo f9 rd krd tp ktp cd bb tl (nxF f9 tl (nxF f9 tl ts)) T nk fr fk fp vl 1000 H.size htl hng (⟨kc_1, cc_2, tc_3, fc_4, kb_5, cb_6, tb_7, fb_8, hq_1124, hT_10, e_1117, e_1123, wr_13, wt_14, e_1118, u_1120, wc_17, hc_18, e_1119, u_1121, wb_21, hb_22⟩ : RSX ρ ws_1112 ty_1113 f9 rd krd tp ktp cd bb tl (nxF f9 tl (nxF f9 tl ts)) T nk fr fk fp vl) (by omega)) (cwV 1 hts gX4_readTest_X4_readNumber rfl rfl rfl (by decide +kernel) ⟨Nat.le_of_ble_eq_true rfl, Nat.le_of_ble_eq_true rfl⟩) ⟨fun a U g mk q => by obtain ⟨q0, q1, qP, qK, qD, qS⟩ := q; exact ⟨q0, q1, qP, va_K.moved (u := U) (U := U.calling g mk a) (Vm.Alike.refl U.vm) qK, qD, SZ.same rfl rfl qS⟩, va_recv hK hP (ci := 4) (q0 := krd) rfl e_1117, fun U hU hW => ⟨rfl, by rw [hU], by rw [hU]; exact hP, va_K.moved hW.alike hK, hD.weaken (fun _ _ _ _ => trivial), hsz9.go hS hW hU hFc⟩⟩ rfl rfl hl.1 rfl (lv_room (Nat.le_of_ble_eq_true rfl)) dX4_readTest_103 ⟨Nat.le_of_ble_eq_true rfl, Nat.le_of_ble_eq_true rfl⟩) hS (fun q _ h => hFc q h) hFc (fun r_1126 u t H1 locs ht hvm w_1127 hB hz1 hk1 hS => ?_)
    subst w_1127
    obtain ⟨ws_1128, ty_1129, hm_1130, ht_1132, hP1, hK1, hD1, hx_1131⟩ := hB
    rw [ht] at hP1
    have hK := va_K.moved hvm.symm hK1
    have hD := hD1.weaken (fun _ _ _ h => hFc _ h)
    generalize H1 = H at hP1 hS ⊢
    have hP := hP1
    obtain ⟨g_1134, e_1133, h_1135⟩ := hm_1130.obj e_1117
    obtain ⟨z_1136, z_1137, z_1138, z_1139, z_1140, z_1141, rfl⟩ := smX4 h_1135
    obtain ⟨g_1143, e_1142, h_1144⟩ := hm_1130.obj e_1123
    obtain ⟨z_1145, z_1146, z_1147, z_1148, rfl⟩ := smX6 h_1144
    obtain ⟨f_1150, e_1149⟩ := hm_1130.arrI e_1118
    have u_1151 := ht_1132 _ _ u_1120
    have e_1152 := hm_1130.keep (by rw [wb_21]; omega) e_1119
    have u_1153 := ht_1132 _ _ u_1121
    have hsm := hsm.tr (hm_1130.mono (by decide))
    have htx := htx.tr ht_1132
    obtain ⟨k_1154, p_1155, v_1156, hn_1157, ⟨rfl, hk_1158, hk_1159, vl_1160, hR_1161⟩ | ⟨rfl, hk_1158, hR_1161⟩⟩ := hx_1131
    · obtain ⟨kc_1162, cc_1163, tc_1164, fc_1165, kb_1166, cb_1167, tb_1168, fb_1169, hp_1170, hT_1171, er_1172, et_1173, wr_1174, wt_1175, ec_1176, uc_1177, wc_1178, hc_1179, eb_1180, ub_1181, wb_1182, hb_1183⟩ := id hR_1161
      have hp_11701 := hp_1170.1
      have hp_1170t := teF_le (f := f9) hp_1170.1
      refine lv_if_ne (tgt := 111) hx hb dX4_readTest_106 (by decide) (fun c_1184 => absurd (by decide) c_1184) (fun c_1184 => ?_)
      refine lv_iconst (v := 0) hx hb dX4_readTest_109 (by decide) ?_
      exact W.zret (v := 0) hx hb hr rfl (fun t ht hW => ⟨⟨0, 0, rfl, rfl, ws_1128, ty_1129, hsm, htx, by rw [ht]; exact hP, va_K.moved hW.alike hK, hD, ⟨k_1154, p_1155, 2, 10, v_1156, Or.inr ⟨nxF f9 tl ts, (Or.inr (Or.inl ⟨by omega, by omega, rfl, rfl, by omega⟩) : whtR f9 tl ts 0 (nxF f9 tl ts) 2), Or.inr ⟨by omega, by omega, hn_1157⟩⟩, Or.inl ⟨rfl, hk_1158, by omega, _, _, (⟨kc_1162, cc_1163, tc_1164, fc_1165, kb_1166, cb_1167, tb_1168, fb_1169, hp_1170, hT_1171, er_1172, et_1173, wr_1174, wt_1175, ec_1176, uc_1177, wc_1178, hc_1179, eb_1180, ub_1181, wb_1182, hb_1183⟩ : RSX ρ ws_1128 ty_1129 f9 rd krd tp ktp cd bb tl (nxF f9 tl (nxF f9 tl ts)) T nk fr (nI k_1154) (nI p_1155) vl_1160)⟩⟩⟩, hS.F ht⟩) hS.2.2 dX4_readTest_110
    subst hk_1158
    obtain ⟨kc_1185, cc_1186, tc_1187, fc_1188, kb_1189, cb_1190, tb_1191, fb_1192, hp_1193, hT_1194, er_1195, et_1196, wr_1197, wt_1198, ec_1199, uc_1200, wc_1201, hc_1202, eb_1203, ub_1204, wb_1205, hb_1206⟩ := id hR_1161
    have hp_11931 := hp_1193.1
    have hp_1193t := teF_le (f := f9) hp_1193.1
    refine lv_if_ne (tgt := 111) hx hb dX4_readTest_106 (by decide) (fun c_1207 => ?_) (fun c_1207 => absurd c_1207 (by decide))
    have hg8 := tst_gain (Or.inr ⟨nxF f9 tl ts, (Or.inr (Or.inl ⟨by omega, by omega, rfl, rfl, by omega⟩) : whtR f9 tl ts 0 (nxF f9 tl ts) 2), Or.inr ⟨by omega, by omega, hn_1157⟩⟩ : tstR f9 tl ts 0 p_1155 2 10 v_1156) hp_91
    refine lv_aload_n hx hb dX4_readTest_111 rfl (lv_at hl 2 rfl) ?_
    refine lv_iload_n hx hb dX4_readTest_112 rfl (lv_at hl 1 rfl) ?_
    refine lv_iload_n hx hb dX4_readTest_113 rfl (lv_at hl 0 rfl) ?_
    refine lv_aload_n hx hb dX4_readTest_114 rfl (lv_at hl 2 rfl) ?_
    refine va_get (D := D) (ci := 4) (v := .int (nI v_1156)) (C := RX4) (T := TX4) (N := 8) hx hb hts hin4 hown hK hP krd er_1195 rfl 7 (by decide) (hts (.fieldLink RX4 56 "HoneyHouse$RuleReader" "value" "I") (List.mem_of_getElem? (i := 2) rfl)) (fun _ h9 => h9) rfl dX4_readTest_115 ?_
    refine vp_callSi (W.runS (As := [.int 2, .int 1, .int (nI v_1156)]) (rest := [.ref rd]) ⟨hx, hb, hml, hown, hts⟩ (s_testCode1 l 2 v_1156) (va_cwS 3 hts gX4_readTest_X4_testCode rfl rfl rfl (by decide +kernel) ⟨Nat.le_of_ble_eq_true rfl, Nat.le_of_ble_eq_true rfl⟩) ⟨fun a U g mk q => q, fun U hU hW => ⟨rfl, trivial⟩⟩ rfl rfl hl.1 rfl (lv_room (Nat.le_of_ble_eq_true rfl)) dX4_readTest_118 ⟨Nat.le_of_ble_eq_true rfl, Nat.le_of_ble_eq_true rfl⟩) (fun r_1208 k_1209 => ?_)
    have hFc := free_all hD hS hA
    refine va_callv (va_runV (As := [.int r_1208]) (rest := []) ⟨hx, hb, hml, hown, hts⟩ (r_addCode l D ρ ws_1128 ty_1129 adK adV fo f9 rd krd tp ktp cd bb tl p_1155 T nk fr fk fp (nI v_1156) (13, 2, 10, v_1156) r_1208 H.size htl hng (⟨kc_1185, cc_1186, tc_1187, fc_1188, kb_1189, cb_1190, tb_1191, fb_1192, hp_1193, hT_1194, er_1195, et_1196, wr_1197, wt_1198, ec_1199, uc_1200, wc_1201, hc_1202, eb_1203, ub_1204, wb_1205, hb_1206⟩ : RSX ρ ws_1128 ty_1129 f9 rd krd tp ktp cd bb tl p_1155 T nk fr fk fp (nI v_1156)) k_1209) (cwV 1 hts gX4_readTest_X4_addCode rfl rfl rfl (by decide +kernel) ⟨Nat.le_of_ble_eq_true rfl, Nat.le_of_ble_eq_true rfl⟩) ⟨fun a U g mk q => by obtain ⟨q0, q1, qP, qK, qD, qS⟩ := q; exact ⟨q0, q1, qP, va_K.moved (u := U) (U := U.calling g mk a) (Vm.Alike.refl U.vm) qK, qD, SZ.same rfl rfl qS⟩, va_recv hK hP (ci := 4) (q0 := krd) rfl er_1195, fun U hU hW => ⟨rfl, by rw [hU], by rw [hU]; exact hP, va_K.moved hW.alike hK, hD.weaken (fun _ _ _ _ => trivial), hsz9.go hS hW hU hFc⟩⟩ rfl rfl hl.1 rfl (lv_room (Nat.le_of_ble_eq_true rfl)) dX4_readTest_121 ⟨Nat.le_of_ble_eq_true rfl, Nat.le_of_ble_eq_true rfl⟩) hS (fun q _ h => hFc q h) hFc (fun u t H1 locs ht hvm w_1211 hB hz1 hk1 hS => ?_)
    obtain ⟨ws_1212, ty_1213, hm_1214, ht_1216, hP1, hK1, hD1, hx_1215⟩ := hB
    rw [ht] at hP1
    have hK := va_K.moved hvm.symm hK1
    have hD := hD1.weaken (fun _ _ _ h => hFc _ h)
    generalize H1 = H at hP1 hS ⊢
    have hP := hP1
    obtain ⟨g_1218, e_1217, h_1219⟩ := hm_1214.obj er_1195
    obtain ⟨z_1220, z_1221, z_1222, z_1223, z_1224, z_1225, rfl⟩ := smX4 h_1219
    obtain ⟨g_1227, e_1226, h_1228⟩ := hm_1214.obj et_1196
    obtain ⟨z_1229, z_1230, z_1231, z_1232, rfl⟩ := smX6 h_1228
    obtain ⟨f_1234, e_1233⟩ := hm_1214.arrI ec_1199
    have u_1235 := ht_1216 _ _ uc_1200
    have e_1236 := hm_1214.keep (by rw [wb_1205]; omega) eb_1203
    have u_1237 := ht_1216 _ _ ub_1204
    have hsm := hsm.tr (hm_1214.mono (by decide))
    have htx := htx.tr ht_1216
    obtain ⟨hl_1238, hR_1239⟩ := hx_1215.resolve_right (fun h9 => h9.1 (by omega))
    obtain ⟨kc_1240, cc_1241, tc_1242, fc_1243, kb_1244, cb_1245, tb_1246, fb_1247, hp_1248, hT_1249, er_1250, et_1251, wr_1252, wt_1253, ec_1254, uc_1255, wc_1256, hc_1257, eb_1258, ub_1259, wb_1260, hb_1261⟩ := id hR_1239
    have hp_12481 := hp_1248.1
    have hp_1248t := teF_le (f := f9) hp_1248.1
    refine lv_iconst (v := 1) hx hb dX4_readTest_124 (by decide) ?_
    have ht9 : tstR f9 tl ts 0 p_1155 2 10 v_1156 := Or.inr ⟨nxF f9 tl ts, (Or.inr (Or.inl ⟨by omega, by omega, rfl, rfl, by omega⟩) : whtR f9 tl ts 0 (nxF f9 tl ts) 2), Or.inr ⟨by omega, by omega, hn_1157⟩⟩
    have hg9 := tst_gain ht9 hp_91
    exact W.zret (v := 1) hx hb hr rfl (fun t ht hW => ⟨⟨1, 1, rfl, rfl, ws_1212, ty_1213, hsm, htx, by rw [ht]; exact hP, va_K.moved hW.alike hK, hD, ⟨0, p_1155, 2, 10, v_1156, ht9, Or.inr ⟨rfl, rfl, by omega, _, (⟨kc_1240, cc_1241, tc_1242, fc_1243, kb_1244, cb_1245, tb_1246, fb_1247, hp_1248, hT_1249, er_1250, et_1251, wr_1252, wt_1253, ec_1254, uc_1255, wc_1256, hc_1257, eb_1258, ub_1259, wb_1260, hb_1261⟩ : RSX ρ ws_1212 ty_1213 f9 rd krd tp ktp cd bb tl p_1155 (T ++ [(13, 2, 10, v_1156)]) nk fr fk fp (nI v_1156))⟩⟩⟩, hS.F ht⟩) hS.2.2 dX4_readTest_125
  · refine lv_istore_n (lv' := [(1, .int 10), (0, .ref rd)]) hx hb dX4_readTest_4 rfl hl (by decide) rfl (fun ls hl => ?_)
    refine lv_iload_n hx hb dX4_readTest_5 rfl (lv_at hl 0 rfl) ?_
    refine lv_iconst (v := (-1)) hx hb dX4_readTest_6 (by decide) ?_
    refine lv_icmp_ne (tgt := 15) hx hb dX4_readTest_7 (by decide) (fun c_1262 => ?_) (fun c_1262 => absurd c_1262 (by decide))
    refine lv_aload_n hx hb dX4_readTest_15 rfl (lv_at hl 1 rfl) ?_
    refine va_get (D := D) (ci := 4) (v := .ref tp) (C := RX4) (T := TX4) (N := 8) hx hb hts hin4 hown hK hP krd e_30 rfl 0 (by decide) (hts (.fieldLink RX4 12 "HoneyHouse$RuleReader" "tape" "LHoneyHouse$Tape;") (List.mem_of_getElem? (i := 1) rfl)) (fun _ h9 => h9) rfl dX4_readTest_16 ?_
    have hFc := free_all hD hS hA
    refine va_callv (va_runV (As := []) (rest := []) ⟨hx, hb, hml, hown, hts⟩ (a_advance l D (rz [ktp]) ws_25 ty_26 f9 tp ktp tl (teF f9 tl ts) (nI (kdF f9 tl ts)) (nI ts) bb kb_5 cb_6 tb_7 fb_8 H.size htl hb_22 hng (by omega) e_31 e_33 u_35 (rz_o1 (pl_ne e_33 e_31 (by intro h9; simp at h9))) (rz_in (by simp))) (cwV 0 hts gX4_readTest_X6_advance rfl rfl rfl (by decide +kernel) ⟨Nat.le_of_ble_eq_true rfl, Nat.le_of_ble_eq_true rfl⟩) ⟨fun a U g mk q => by obtain ⟨q0, q1, qP, qK, qD⟩ := q; exact ⟨q0, q1, qP, va_K.moved (u := U) (U := U.calling g mk a) (Vm.Alike.refl U.vm) qK, qD⟩, va_recv hK hP (ci := 6) (q0 := ktp) rfl e_31, fun U hU hW => ⟨rfl, by rw [hU], by rw [hU]; exact hP, va_K.moved hW.alike hK, hD.weaken (fun _ _ _ _ => trivial)⟩⟩ rfl rfl hl.1 rfl (lv_room (Nat.le_of_ble_eq_true rfl)) dX4_readTest_19 ⟨Nat.le_of_ble_eq_true rfl, Nat.le_of_ble_eq_true rfl⟩) hS (fun q _ h => hFc q h) hFc (fun u t H1 locs ht hvm w_1264 hB hz1 hk1 hS => ?_)
    obtain ⟨ws_1265, ty_1266, hm_1267, ht_1269, hP1, hK1, hD1, hx_1268⟩ := hB
    rw [ht] at hP1
    have hK := va_K.moved hvm.symm hK1
    have hD := hD1.weaken (fun _ _ _ h => hFc _ h)
    generalize H1 = H at hP1 hS ⊢
    have hP := hP1
    have e_1270 := hm_1267.keep (rz_o1 (pl_ne e_30 e_31 (by intro h9; simp at h9))) e_30
    have e_1271 := hm_1267.keep (rz_o1 (pl_ne e_32 e_31 (by intro h9; simp at h9))) e_32
    have e_1272 := hm_1267.keep (rz_o1 (pl_ne e_33 e_31 (by intro h9; simp at h9))) e_33
    have u_1273 := ht_1269 _ _ u_34
    have u_1274 := ht_1269 _ _ u_35
    have hm_1275 : sm ρ [6] ws_25 ws_1265 := hm_1267.up (fun k _ h => rz_u1 wt_14 k h)
    have hsm := hsm.tr (hm_1275.mono (by decide))
    have htx := htx.tr ht_1269
    have e_1276 : ws_1265[ktp]? = some (tp, .inr (6, [.int (nI tl), .int (nI (kdF f9 tl (nxF f9 tl ts))), .int (nI (nxF f9 tl ts)), .int (nI (teF f9 tl (nxF f9 tl ts))), .ref bb])) := hx_1268; have hq_1277 : pcB f9 tl (nxF f9 tl ts) := nxF_pc (f := f9) hp_9.1; have hq_12771 := hq_1277.1; have hq_1277t := teF_le (f := f9) hq_1277.1; have hg_1278 := nx_gain (f := f9) hp_9.1
    refine lv_iload_n hx hb dX4_readTest_22 rfl (lv_at hl 0 rfl) ?_
    refine lv_bipush (v := 10) hx hb dX4_readTest_23 (by decide) ?_
    refine lv_icmp_eq (tgt := 34) hx hb dX4_readTest_25 (by decide) (fun c_1279 => ?_) (fun c_1279 => absurd (by decide) c_1279)
    refine lv_aload_n hx hb dX4_readTest_34 rfl (lv_at hl 1 rfl) ?_
    refine lv_iload_n hx hb dX4_readTest_35 rfl (lv_at hl 0 rfl) ?_
    refine lv_bipush (v := 30) hx hb dX4_readTest_36 (by decide) ?_
    refine lv_icmp_ne (tgt := 45) hx hb dX4_readTest_38 (by decide) (fun c_1280 => ?_) (fun c_1280 => absurd c_1280 (by decide))
    refine lv_iconst (v := 4) hx hb dX4_readTest_45 (by decide) ?_
    have hFc := free_all hD hS hA
    refine va_calli (va_runV (As := [.int 4]) (rest := []) ⟨hx, hb, hml, hown, hts⟩ (r_readNumber l D ρ ws_1265 ty_1266 adK adV fo f9 rd krd tp ktp cd bb tl (nxF f9 tl ts) T nk fr fk fp vl 4 H.size htl hng (⟨kc_1, cc_2, tc_3, fc_4, kb_5, cb_6, tb_7, fb_8, hq_1277, hT_10, e_1270, e_1276, wr_13, wt_14, e_1271, u_1273, wc_17, hc_18, e_1272, u_1274, wb_21, hb_22⟩ : RSX ρ ws_1265 ty_1266 f9 rd krd tp ktp cd bb tl (nxF f9 tl ts) T nk fr fk fp vl) (by omega)) (cwV 1 hts gX4_readTest_X4_readNumber rfl rfl rfl (by decide +kernel) ⟨Nat.le_of_ble_eq_true rfl, Nat.le_of_ble_eq_true rfl⟩) ⟨fun a U g mk q => by obtain ⟨q0, q1, qP, qK, qD, qS⟩ := q; exact ⟨q0, q1, qP, va_K.moved (u := U) (U := U.calling g mk a) (Vm.Alike.refl U.vm) qK, qD, SZ.same rfl rfl qS⟩, va_recv hK hP (ci := 4) (q0 := krd) rfl e_1270, fun U hU hW => ⟨rfl, by rw [hU], by rw [hU]; exact hP, va_K.moved hW.alike hK, hD.weaken (fun _ _ _ _ => trivial), hsz9.go hS hW hU hFc⟩⟩ rfl rfl hl.1 rfl (lv_room (Nat.le_of_ble_eq_true rfl)) dX4_readTest_46 ⟨Nat.le_of_ble_eq_true rfl, Nat.le_of_ble_eq_true rfl⟩) hS (fun q _ h => hFc q h) hFc (fun r_1281 u t H1 locs ht hvm w_1282 hB hz1 hk1 hS => ?_)
    subst w_1282
    obtain ⟨ws_1283, ty_1284, hm_1285, ht_1287, hP1, hK1, hD1, hx_1286⟩ := hB
    rw [ht] at hP1
    have hK := va_K.moved hvm.symm hK1
    have hD := hD1.weaken (fun _ _ _ h => hFc _ h)
    generalize H1 = H at hP1 hS ⊢
    have hP := hP1
    obtain ⟨g_1289, e_1288, h_1290⟩ := hm_1285.obj e_1270
    obtain ⟨z_1291, z_1292, z_1293, z_1294, z_1295, z_1296, rfl⟩ := smX4 h_1290
    obtain ⟨g_1298, e_1297, h_1299⟩ := hm_1285.obj e_1276
    obtain ⟨z_1300, z_1301, z_1302, z_1303, rfl⟩ := smX6 h_1299
    obtain ⟨f_1305, e_1304⟩ := hm_1285.arrI e_1271
    have u_1306 := ht_1287 _ _ u_1273
    have e_1307 := hm_1285.keep (by rw [wb_21]; omega) e_1272
    have u_1308 := ht_1287 _ _ u_1274
    have hsm := hsm.tr (hm_1285.mono (by decide))
    have htx := htx.tr ht_1287
    obtain ⟨k_1309, p_1310, v_1311, hn_1312, ⟨rfl, hk_1313, hk_1314, vl_1315, hR_1316⟩ | ⟨rfl, hk_1313, hR_1316⟩⟩ := hx_1286
    · obtain ⟨kc_1317, cc_1318, tc_1319, fc_1320, kb_1321, cb_1322, tb_1323, fb_1324, hp_1325, hT_1326, er_1327, et_1328, wr_1329, wt_1330, ec_1331, uc_1332, wc_1333, hc_1334, eb_1335, ub_1336, wb_1337, hb_1338⟩ := id hR_1316
      have hp_13251 := hp_1325.1
      have hp_1325t := teF_le (f := f9) hp_1325.1
      refine lv_if_ne (tgt := 54) hx hb dX4_readTest_49 (by decide) (fun c_1339 => absurd (by decide) c_1339) (fun c_1339 => ?_)
      refine lv_iconst (v := 0) hx hb dX4_readTest_52 (by decide) ?_
      exact W.zret (v := 0) hx hb hr rfl (fun t ht hW => ⟨⟨0, 0, rfl, rfl, ws_1283, ty_1284, hsm, htx, by rw [ht]; exact hP, va_K.moved hW.alike hK, hD, ⟨k_1309, p_1310, 0, 0, 0, Or.inl ⟨_, (Or.inr (Or.inr (Or.inl (⟨mn_37, v_1311, hn_1312, rfl⟩))) : whtR f9 tl ts k_1309 p_1310 (10 + v_1311)), hk_1313⟩, Or.inl ⟨rfl, hk_1313, by omega, _, _, (⟨kc_1317, cc_1318, tc_1319, fc_1320, kb_1321, cb_1322, tb_1323, fb_1324, hp_1325, hT_1326, er_1327, et_1328, wr_1329, wt_1330, ec_1331, uc_1332, wc_1333, hc_1334, eb_1335, ub_1336, wb_1337, hb_1338⟩ : RSX ρ ws_1283 ty_1284 f9 rd krd tp ktp cd bb tl (nxF f9 tl ts) T nk fr (nI k_1309) (nI p_1310) vl_1315)⟩⟩⟩, hS.F ht⟩) hS.2.2 dX4_readTest_53
    subst hk_1313
    obtain ⟨kc_1340, cc_1341, tc_1342, fc_1343, kb_1344, cb_1345, tb_1346, fb_1347, hp_1348, hT_1349, er_1350, et_1351, wr_1352, wt_1353, ec_1354, uc_1355, wc_1356, hc_1357, eb_1358, ub_1359, wb_1360, hb_1361⟩ := id hR_1316
    have hp_13481 := hp_1348.1
    have hp_1348t := teF_le (f := f9) hp_1348.1
    refine lv_if_ne (tgt := 54) hx hb dX4_readTest_49 (by decide) (fun c_1362 => ?_) (fun c_1362 => absurd c_1362 (by decide))
    refine lv_iload_n hx hb dX4_readTest_54 rfl (lv_at hl 0 rfl) ?_
    refine lv_aload_n hx hb dX4_readTest_55 rfl (lv_at hl 1 rfl) ?_
    refine va_get (D := D) (ci := 4) (v := .int (nI v_1311)) (C := RX4) (T := TX4) (N := 8) hx hb hts hin4 hown hK hP krd er_1350 rfl 7 (by decide) (hts (.fieldLink RX4 56 "HoneyHouse$RuleReader" "value" "I") (List.mem_of_getElem? (i := 2) rfl)) (fun _ h9 => h9) rfl dX4_readTest_56 ?_
    refine lv_iadd hx hb dX4_readTest_59 ?_
    refine tp_i (y := nI (10 + v_1311)) (nI_add 10 v_1311) ?_
    refine lv_istore_n (lv' := [(1, .int (nI (10 + v_1311))), (0, .ref rd)]) hx hb dX4_readTest_60 rfl hl (by decide) rfl (fun ls hl => ?_)
    refine lv_aload_n hx hb dX4_readTest_61 rfl (lv_at hl 1 rfl) ?_
    refine va_get (D := D) (ci := 4) (v := .ref tp) (C := RX4) (T := TX4) (N := 8) hx hb hts hin4 hown hK hP krd er_1350 rfl 0 (by decide) (hts (.fieldLink RX4 12 "HoneyHouse$RuleReader" "tape" "LHoneyHouse$Tape;") (List.mem_of_getElem? (i := 1) rfl)) (fun _ h9 => h9) rfl dX4_readTest_62 ?_
    refine va_ldcS hx hb hown hsz9.2.2.2.2.2.2.2.2.1 dX4_readTest_65 ?_
    have hFc := free_all hD hS hA
    refine va_calli (va_runV (As := [.ref (adK 5)]) (rest := []) ⟨hx, hb, hml, hown, hts⟩ (a_isWord l D (rz []) ws_1283 ty_1284 adK adV fo 5 f9 tp ktp tl p_1310 bb kb_1344 cb_1345 tb_1346 fb_1347 H.size (by decide) htl hb_1361 hng hp_1348 et_1351 eb_1358 ub_1359 rz_o0) (cwV 1 hts gX4_readTest_X6_isWord rfl rfl rfl (by decide +kernel) ⟨Nat.le_of_ble_eq_true rfl, Nat.le_of_ble_eq_true rfl⟩) ⟨fun a U g mk q => by obtain ⟨q0, q1, qP, qK, qD, qS⟩ := q; exact ⟨q0, q1, qP, va_K.moved (u := U) (U := U.calling g mk a) (Vm.Alike.refl U.vm) qK, qD, SZ.same rfl rfl qS⟩, va_recv hK hP (ci := 6) (q0 := ktp) rfl et_1351, fun U hU hW => ⟨rfl, by rw [hU], by rw [hU]; exact hP, va_K.moved hW.alike hK, hD.weaken (fun _ _ _ _ => trivial), hsz9.go hS hW hU hFc⟩⟩ rfl rfl hl.1 rfl (lv_room (Nat.le_of_ble_eq_true rfl)) dX4_readTest_67 ⟨Nat.le_of_ble_eq_true rfl, Nat.le_of_ble_eq_true rfl⟩) hS (fun q _ h => hFc q h) hFc (fun r_1363 u t H1 locs ht hvm w_1364 hB hz1 hk1 hS => ?_)
    obtain ⟨ws_1365, ty_1366, hm_1367, ht_1369, hP1, hK1, hD1, hx_1368⟩ := hB
    rw [ht] at hP1
    have hK := va_K.moved hvm.symm hK1
    have hD := hD1.weaken (fun _ _ _ h => hFc _ h)
    generalize H1 = H at hP1 hS ⊢
    have hP := hP1
    have e_1370 := hm_1367.keep rz_o0 er_1350
    have e_1371 := hm_1367.keep rz_o0 et_1351
    have e_1372 := hm_1367.keep rz_o0 ec_1354
    have e_1373 := hm_1367.keep rz_o0 eb_1358
    have u_1374 := ht_1369 _ _ uc_1355
    have u_1375 := ht_1369 _ _ ub_1359
    have hm_1376 : sm ρ [] ws_1283 ws_1365 := hm_1367.up (fun k _ h => rz_u0  k h)
    have hsm := hsm.tr (hm_1376.mono (by decide))
    have htx := htx.tr ht_1369
    rcases w_1364 with ⟨rfl, iw_1377⟩ | ⟨rfl, iw_1377⟩
    · have iw_1377 : ¬ wdE f9 tl p_1310 = 10 := iw_1377
      refine lv_istore_n (lv' := [(2, .int 0), (1, .int (nI (10 + v_1311))), (0, .ref rd)]) hx hb dX4_readTest_70 rfl hl (by decide) rfl (fun ls hl => ?_)
      refine lv_iload_n hx hb dX4_readTest_71 rfl (lv_at hl 0 rfl) ?_
      refine lv_if_ne (tgt := 92) hx hb dX4_readTest_72 (by decide) (fun c_1378 => absurd (by decide) c_1378) (fun c_1378 => ?_)
      refine lv_aload_n hx hb dX4_readTest_75 rfl (lv_at hl 2 rfl) ?_
      refine va_get (D := D) (ci := 4) (v := .ref tp) (C := RX4) (T := TX4) (N := 8) hx hb hts hin4 hown hK hP krd e_1370 rfl 0 (by decide) (hts (.fieldLink RX4 12 "HoneyHouse$RuleReader" "tape" "LHoneyHouse$Tape;") (List.mem_of_getElem? (i := 1) rfl)) (fun _ h9 => h9) rfl dX4_readTest_76 ?_
      refine va_ldcS hx hb hown hsz9.2.2.2.2.2.2.2.1 dX4_readTest_79 ?_
      have hFc := free_all hD hS hA
      refine va_calli (va_runV (As := [.ref (adK 4)]) (rest := []) ⟨hx, hb, hml, hown, hts⟩ (a_isWord l D (rz []) ws_1365 ty_1366 adK adV fo 4 f9 tp ktp tl p_1310 bb kb_1344 cb_1345 tb_1346 fb_1347 H.size (by decide) htl hb_1361 hng hp_1348 e_1371 e_1373 u_1375 rz_o0) (cwV 1 hts gX4_readTest_X6_isWord rfl rfl rfl (by decide +kernel) ⟨Nat.le_of_ble_eq_true rfl, Nat.le_of_ble_eq_true rfl⟩) ⟨fun a U g mk q => by obtain ⟨q0, q1, qP, qK, qD, qS⟩ := q; exact ⟨q0, q1, qP, va_K.moved (u := U) (U := U.calling g mk a) (Vm.Alike.refl U.vm) qK, qD, SZ.same rfl rfl qS⟩, va_recv hK hP (ci := 6) (q0 := ktp) rfl e_1371, fun U hU hW => ⟨rfl, by rw [hU], by rw [hU]; exact hP, va_K.moved hW.alike hK, hD.weaken (fun _ _ _ _ => trivial), hsz9.go hS hW hU hFc⟩⟩ rfl rfl hl.1 rfl (lv_room (Nat.le_of_ble_eq_true rfl)) dX4_readTest_81 ⟨Nat.le_of_ble_eq_true rfl, Nat.le_of_ble_eq_true rfl⟩) hS (fun q _ h => hFc q h) hFc (fun r_1379 u t H1 locs ht hvm w_1380 hB hz1 hk1 hS => ?_)
      obtain ⟨ws_1381, ty_1382, hm_1383, ht_1385, hP1, hK1, hD1, hx_1384⟩ := hB
      rw [ht] at hP1
      have hK := va_K.moved hvm.symm hK1
      have hD := hD1.weaken (fun _ _ _ h => hFc _ h)
      generalize H1 = H at hP1 hS ⊢
      have hP := hP1
      have e_1386 := hm_1383.keep rz_o0 e_1370
      have e_1387 := hm_1383.keep rz_o0 e_1371
      have e_1388 := hm_1383.keep rz_o0 e_1372
      have e_1389 := hm_1383.keep rz_o0 e_1373
      have u_1390 := ht_1385 _ _ u_1374
      have u_1391 := ht_1385 _ _ u_1375
      have hm_1392 : sm ρ [] ws_1365 ws_1381 := hm_1383.up (fun k _ h => rz_u0  k h)
      have hsm := hsm.tr (hm_1392.mono (by decide))
      have htx := htx.tr ht_1385
      rcases w_1380 with ⟨rfl, iw_1393⟩ | ⟨rfl, iw_1393⟩
      · have iw_1393 : ¬ wdE f9 tl p_1310 = 9 := iw_1393
        refine lv_if_ne (tgt := 92) hx hb dX4_readTest_84 (by decide) (fun c_1394 => absurd (by decide) c_1394) (fun c_1394 => ?_)
        refine lv_aload_n hx hb dX4_readTest_87 rfl (lv_at hl 2 rfl) ?_
        have hFc := free_all hD hS hA
        refine va_calli (va_runV (As := []) (rest := []) ⟨hx, hb, hml, hown, hts⟩ (r_failHere l D ρ ws_1381 ty_1382 adK adV fo f9 rd krd tp ktp cd bb tl p_1310 T nk fr fk fp (nI v_1311)  H.size htl hng (⟨kc_1340, cc_1341, tc_1342, fc_1343, kb_1344, cb_1345, tb_1346, fb_1347, hp_1348, hT_1349, e_1386, e_1387, wr_1352, wt_1353, e_1388, u_1390, wc_1356, hc_1357, e_1389, u_1391, wb_1360, hb_1361⟩ : RSX ρ ws_1381 ty_1382 f9 rd krd tp ktp cd bb tl p_1310 T nk fr fk fp (nI v_1311)) ) (cwV 0 hts gX4_readTest_X4_failHere rfl rfl rfl (by decide +kernel) ⟨Nat.le_of_ble_eq_true rfl, Nat.le_of_ble_eq_true rfl⟩) ⟨fun a U g mk q => by obtain ⟨q0, q1, qP, qK, qD, qS⟩ := q; exact ⟨q0, q1, qP, va_K.moved (u := U) (U := U.calling g mk a) (Vm.Alike.refl U.vm) qK, qD, SZ.same rfl rfl qS⟩, va_recv hK hP (ci := 4) (q0 := krd) rfl e_1386, fun U hU hW => ⟨rfl, by rw [hU], by rw [hU]; exact hP, va_K.moved hW.alike hK, hD.weaken (fun _ _ _ _ => trivial), hsz9.go hS hW hU hFc⟩⟩ rfl rfl hl.1 rfl (lv_room (Nat.le_of_ble_eq_true rfl)) dX4_readTest_88 ⟨Nat.le_of_ble_eq_true rfl, Nat.le_of_ble_eq_true rfl⟩) hS (fun q _ h => hFc q h) hFc (fun r_1395 u t H1 locs ht hvm w_1396 hB hz1 hk1 hS => ?_)
        subst w_1396
        obtain ⟨ws_1397, ty_1398, hm_1399, ht_1401, hP1, hK1, hD1, hx_1400⟩ := hB
        rw [ht] at hP1
        have hK := va_K.moved hvm.symm hK1
        have hD := hD1.weaken (fun _ _ _ h => hFc _ h)
        generalize H1 = H at hP1 hS ⊢
        have hP := hP1
        obtain ⟨g_1403, e_1402, h_1404⟩ := hm_1399.obj e_1386
        obtain ⟨z_1405, z_1406, z_1407, z_1408, z_1409, z_1410, rfl⟩ := smX4 h_1404
        obtain ⟨g_1412, e_1411, h_1413⟩ := hm_1399.obj e_1387
        obtain ⟨z_1414, z_1415, z_1416, z_1417, rfl⟩ := smX6 h_1413
        obtain ⟨f_1419, e_1418⟩ := hm_1399.arrI e_1388
        have u_1420 := ht_1401 _ _ u_1390
        have e_1421 := hm_1399.keep (by rw [wb_1360]; omega) e_1389
        have u_1422 := ht_1401 _ _ u_1391
        have hsm := hsm.tr (hm_1399.mono (by decide))
        have htx := htx.tr ht_1401
        obtain ⟨rfl, hR_1423⟩ := hx_1400
        obtain ⟨kc_1424, cc_1425, tc_1426, fc_1427, kb_1428, cb_1429, tb_1430, fb_1431, hp_1432, hT_1433, er_1434, et_1435, wr_1436, wt_1437, ec_1438, uc_1439, wc_1440, hc_1441, eb_1442, ub_1443, wb_1444, hb_1445⟩ := id hR_1423
        have hp_14321 := hp_1432.1
        have hp_1432t := teF_le (f := f9) hp_1432.1
        exact W.zret (v := 0) hx hb hr rfl (fun t ht hW => ⟨⟨0, 0, rfl, rfl, ws_1397, ty_1398, hsm, htx, by rw [ht]; exact hP, va_K.moved hW.alike hK, hD, ⟨1, p_1310, 10 + v_1311, 0, 0, Or.inr ⟨p_1310, (Or.inr (Or.inr (Or.inl (⟨mn_37, v_1311, hn_1312, rfl⟩))) : whtR f9 tl ts 0 p_1310 (10 + v_1311)), Or.inl ⟨by omega, rfl, rfl⟩⟩, Or.inl ⟨rfl, by omega, by omega, _, _, (⟨kc_1424, cc_1425, tc_1426, fc_1427, kb_1428, cb_1429, tb_1430, fb_1431, hp_1432, hT_1433, er_1434, et_1435, wr_1436, wt_1437, ec_1438, uc_1439, wc_1440, hc_1441, eb_1442, ub_1443, wb_1444, hb_1445⟩ : RSX ρ ws_1397 ty_1398 f9 rd krd tp ktp cd bb tl p_1310 T nk fr 1 (nI p_1310) (nI v_1311))⟩⟩⟩, hS.F ht⟩) hS.2.2 dX4_readTest_91
      have iw_1393 : wdE f9 tl p_1310 = 9 := iw_1393
      refine lv_if_ne (tgt := 92) hx hb dX4_readTest_84 (by decide) (fun c_1446 => ?_) (fun c_1446 => absurd c_1446 (by decide))
      refine lv_aload_n hx hb dX4_readTest_92 rfl (lv_at hl 2 rfl) ?_
      refine va_get (D := D) (ci := 4) (v := .ref tp) (C := RX4) (T := TX4) (N := 8) hx hb hts hin4 hown hK hP krd e_1386 rfl 0 (by decide) (hts (.fieldLink RX4 12 "HoneyHouse$RuleReader" "tape" "LHoneyHouse$Tape;") (List.mem_of_getElem? (i := 1) rfl)) (fun _ h9 => h9) rfl dX4_readTest_93 ?_
      have hFc := free_all hD hS hA
      refine va_callv (va_runV (As := []) (rest := []) ⟨hx, hb, hml, hown, hts⟩ (a_advance l D (rz [ktp]) ws_1381 ty_1382 f9 tp ktp tl (teF f9 tl p_1310) (nI (kdF f9 tl p_1310)) (nI p_1310) bb kb_1344 cb_1345 tb_1346 fb_1347 H.size htl hb_1361 hng (by omega) e_1387 e_1389 u_1391 (rz_o1 (pl_ne e_1389 e_1387 (by intro h9; simp at h9))) (rz_in (by simp))) (cwV 0 hts gX4_readTest_X6_advance rfl rfl rfl (by decide +kernel) ⟨Nat.le_of_ble_eq_true rfl, Nat.le_of_ble_eq_true rfl⟩) ⟨fun a U g mk q => by obtain ⟨q0, q1, qP, qK, qD⟩ := q; exact ⟨q0, q1, qP, va_K.moved (u := U) (U := U.calling g mk a) (Vm.Alike.refl U.vm) qK, qD⟩, va_recv hK hP (ci := 6) (q0 := ktp) rfl e_1387, fun U hU hW => ⟨rfl, by rw [hU], by rw [hU]; exact hP, va_K.moved hW.alike hK, hD.weaken (fun _ _ _ _ => trivial)⟩⟩ rfl rfl hl.1 rfl (lv_room (Nat.le_of_ble_eq_true rfl)) dX4_readTest_96 ⟨Nat.le_of_ble_eq_true rfl, Nat.le_of_ble_eq_true rfl⟩) hS (fun q _ h => hFc q h) hFc (fun u t H1 locs ht hvm w_1448 hB hz1 hk1 hS => ?_)
      obtain ⟨ws_1449, ty_1450, hm_1451, ht_1453, hP1, hK1, hD1, hx_1452⟩ := hB
      rw [ht] at hP1
      have hK := va_K.moved hvm.symm hK1
      have hD := hD1.weaken (fun _ _ _ h => hFc _ h)
      generalize H1 = H at hP1 hS ⊢
      have hP := hP1
      have e_1454 := hm_1451.keep (rz_o1 (pl_ne e_1386 e_1387 (by intro h9; simp at h9))) e_1386
      have e_1455 := hm_1451.keep (rz_o1 (pl_ne e_1388 e_1387 (by intro h9; simp at h9))) e_1388
      have e_1456 := hm_1451.keep (rz_o1 (pl_ne e_1389 e_1387 (by intro h9; simp at h9))) e_1389
      have u_1457 := ht_1453 _ _ u_1390
      have u_1458 := ht_1453 _ _ u_1391
      have hm_1459 : sm ρ [6] ws_1381 ws_1449 := hm_1451.up (fun k _ h => rz_u1 wt_1353 k h)
      have hsm := hsm.tr (hm_1459.mono (by decide))
      have htx := htx.tr ht_1453
      have e_1460 : ws_1449[ktp]? = some (tp, .inr (6, [.int (nI tl), .int (nI (kdF f9 tl (nxF f9 tl p_1310))), .int (nI (nxF f9 tl p_1310)), .int (nI (teF f9 tl (nxF f9 tl p_1310))), .ref bb])) := hx_1452; have hq_1461 : pcB f9 tl (nxF f9 tl p_1310) := nxF_pc (f := f9) hp_1348.1; have hq_14611 := hq_1461.1; have hq_1461t := teF_le (f := f9) hq_1461.1; have hg_1462 := nx_gain (f := f9) hp_1348.1
      refine lv_aload_n hx hb dX4_readTest_99 rfl (lv_at hl 2 rfl) ?_
      refine lv_sipush (v := 1000) hx hb dX4_readTest_100 (by decide) ?_
      have hFc := free_all hD hS hA
      refine va_calli (va_runV (As := [.int 1000]) (rest := []) ⟨hx, hb, hml, hown, hts⟩ (r_readNumber l D ρ ws_1449 ty_1450 adK adV fo f9 rd krd tp ktp cd bb tl (nxF f9 tl p_1310) T nk fr fk fp (nI v_1311) 1000 H.size htl hng (⟨kc_1340, cc_1341, tc_1342, fc_1343, kb_1344, cb_1345, tb_1346, fb_1347, hq_1461, hT_1349, e_1454, e_1460, wr_1352, wt_1353, e_1455, u_1457, wc_1356, hc_1357, e_1456, u_1458, wb_1360, hb_1361⟩ : RSX ρ ws_1449 ty_1450 f9 rd krd tp ktp cd bb tl (nxF f9 tl p_1310) T nk fr fk fp (nI v_1311)) (by omega)) (cwV 1 hts gX4_readTest_X4_readNumber rfl rfl rfl (by decide +kernel) ⟨Nat.le_of_ble_eq_true rfl, Nat.le_of_ble_eq_true rfl⟩) ⟨fun a U g mk q => by obtain ⟨q0, q1, qP, qK, qD, qS⟩ := q; exact ⟨q0, q1, qP, va_K.moved (u := U) (U := U.calling g mk a) (Vm.Alike.refl U.vm) qK, qD, SZ.same rfl rfl qS⟩, va_recv hK hP (ci := 4) (q0 := krd) rfl e_1454, fun U hU hW => ⟨rfl, by rw [hU], by rw [hU]; exact hP, va_K.moved hW.alike hK, hD.weaken (fun _ _ _ _ => trivial), hsz9.go hS hW hU hFc⟩⟩ rfl rfl hl.1 rfl (lv_room (Nat.le_of_ble_eq_true rfl)) dX4_readTest_103 ⟨Nat.le_of_ble_eq_true rfl, Nat.le_of_ble_eq_true rfl⟩) hS (fun q _ h => hFc q h) hFc (fun r_1463 u t H1 locs ht hvm w_1464 hB hz1 hk1 hS => ?_)
      subst w_1464
      obtain ⟨ws_1465, ty_1466, hm_1467, ht_1469, hP1, hK1, hD1, hx_1468⟩ := hB
      rw [ht] at hP1
      have hK := va_K.moved hvm.symm hK1
      have hD := hD1.weaken (fun _ _ _ h => hFc _ h)
      generalize H1 = H at hP1 hS ⊢
      have hP := hP1
      obtain ⟨g_1471, e_1470, h_1472⟩ := hm_1467.obj e_1454
      obtain ⟨z_1473, z_1474, z_1475, z_1476, z_1477, z_1478, rfl⟩ := smX4 h_1472
      obtain ⟨g_1480, e_1479, h_1481⟩ := hm_1467.obj e_1460
      obtain ⟨z_1482, z_1483, z_1484, z_1485, rfl⟩ := smX6 h_1481
      obtain ⟨f_1487, e_1486⟩ := hm_1467.arrI e_1455
      have u_1488 := ht_1469 _ _ u_1457
      have e_1489 := hm_1467.keep (by rw [wb_1360]; omega) e_1456
      have u_1490 := ht_1469 _ _ u_1458
      have hsm := hsm.tr (hm_1467.mono (by decide))
      have htx := htx.tr ht_1469
      obtain ⟨k_1491, p_1492, v_1493, hn_1494, ⟨rfl, hk_1495, hk_1496, vl_1497, hR_1498⟩ | ⟨rfl, hk_1495, hR_1498⟩⟩ := hx_1468
      · obtain ⟨kc_1499, cc_1500, tc_1501, fc_1502, kb_1503, cb_1504, tb_1505, fb_1506, hp_1507, hT_1508, er_1509, et_1510, wr_1511, wt_1512, ec_1513, uc_1514, wc_1515, hc_1516, eb_1517, ub_1518, wb_1519, hb_1520⟩ := id hR_1498
        have hp_15071 := hp_1507.1
        have hp_1507t := teF_le (f := f9) hp_1507.1
        refine lv_if_ne (tgt := 111) hx hb dX4_readTest_106 (by decide) (fun c_1521 => absurd (by decide) c_1521) (fun c_1521 => ?_)
        refine lv_iconst (v := 0) hx hb dX4_readTest_109 (by decide) ?_
        exact W.zret (v := 0) hx hb hr rfl (fun t ht hW => ⟨⟨0, 0, rfl, rfl, ws_1465, ty_1466, hsm, htx, by rw [ht]; exact hP, va_K.moved hW.alike hK, hD, ⟨k_1491, p_1492, 10 + v_1311, 9, v_1493, Or.inr ⟨p_1310, (Or.inr (Or.inr (Or.inl (⟨mn_37, v_1311, hn_1312, rfl⟩))) : whtR f9 tl ts 0 p_1310 (10 + v_1311)), Or.inr ⟨by omega, by omega, hn_1494⟩⟩, Or.inl ⟨rfl, hk_1495, by omega, _, _, (⟨kc_1499, cc_1500, tc_1501, fc_1502, kb_1503, cb_1504, tb_1505, fb_1506, hp_1507, hT_1508, er_1509, et_1510, wr_1511, wt_1512, ec_1513, uc_1514, wc_1515, hc_1516, eb_1517, ub_1518, wb_1519, hb_1520⟩ : RSX ρ ws_1465 ty_1466 f9 rd krd tp ktp cd bb tl (nxF f9 tl p_1310) T nk fr (nI k_1491) (nI p_1492) vl_1497)⟩⟩⟩, hS.F ht⟩) hS.2.2 dX4_readTest_110
      subst hk_1495
      obtain ⟨kc_1522, cc_1523, tc_1524, fc_1525, kb_1526, cb_1527, tb_1528, fb_1529, hp_1530, hT_1531, er_1532, et_1533, wr_1534, wt_1535, ec_1536, uc_1537, wc_1538, hc_1539, eb_1540, ub_1541, wb_1542, hb_1543⟩ := id hR_1498
      have hp_15301 := hp_1530.1
      have hp_1530t := teF_le (f := f9) hp_1530.1
      refine lv_if_ne (tgt := 111) hx hb dX4_readTest_106 (by decide) (fun c_1544 => ?_) (fun c_1544 => absurd c_1544 (by decide))
      have hg8 := tst_gain (Or.inr ⟨p_1310, (Or.inr (Or.inr (Or.inl (⟨mn_37, v_1311, hn_1312, rfl⟩))) : whtR f9 tl ts 0 p_1310 (10 + v_1311)), Or.inr ⟨by omega, by omega, hn_1494⟩⟩ : tstR f9 tl ts 0 p_1492 (10 + v_1311) 9 v_1493) hp_91
      refine lv_aload_n hx hb dX4_readTest_111 rfl (lv_at hl 2 rfl) ?_
      refine lv_iload_n hx hb dX4_readTest_112 rfl (lv_at hl 1 rfl) ?_
      refine lv_iload_n hx hb dX4_readTest_113 rfl (lv_at hl 0 rfl) ?_
      refine lv_aload_n hx hb dX4_readTest_114 rfl (lv_at hl 2 rfl) ?_
      refine va_get (D := D) (ci := 4) (v := .int (nI v_1493)) (C := RX4) (T := TX4) (N := 8) hx hb hts hin4 hown hK hP krd er_1532 rfl 7 (by decide) (hts (.fieldLink RX4 56 "HoneyHouse$RuleReader" "value" "I") (List.mem_of_getElem? (i := 2) rfl)) (fun _ h9 => h9) rfl dX4_readTest_115 ?_
      refine vp_callSi (W.runS (As := [.int (nI (10 + v_1311)), .int 0, .int (nI v_1493)]) (rest := [.ref rd]) ⟨hx, hb, hml, hown, hts⟩ (s_testCode0 l (10 + v_1311) v_1493) (va_cwS 3 hts gX4_readTest_X4_testCode rfl rfl rfl (by decide +kernel) ⟨Nat.le_of_ble_eq_true rfl, Nat.le_of_ble_eq_true rfl⟩) ⟨fun a U g mk q => q, fun U hU hW => ⟨rfl, trivial⟩⟩ rfl rfl hl.1 rfl (lv_room (Nat.le_of_ble_eq_true rfl)) dX4_readTest_118 ⟨Nat.le_of_ble_eq_true rfl, Nat.le_of_ble_eq_true rfl⟩) (fun r_1545 k_1546 => ?_)
      have hFc := free_all hD hS hA
      refine va_callv (va_runV (As := [.int r_1545]) (rest := []) ⟨hx, hb, hml, hown, hts⟩ (r_addCode l D ρ ws_1465 ty_1466 adK adV fo f9 rd krd tp ktp cd bb tl p_1492 T nk fr fk fp (nI v_1493) (13, 10 + v_1311, 9, v_1493) r_1545 H.size htl hng (⟨kc_1522, cc_1523, tc_1524, fc_1525, kb_1526, cb_1527, tb_1528, fb_1529, hp_1530, hT_1531, er_1532, et_1533, wr_1534, wt_1535, ec_1536, uc_1537, wc_1538, hc_1539, eb_1540, ub_1541, wb_1542, hb_1543⟩ : RSX ρ ws_1465 ty_1466 f9 rd krd tp ktp cd bb tl p_1492 T nk fr fk fp (nI v_1493)) k_1546) (cwV 1 hts gX4_readTest_X4_addCode rfl rfl rfl (by decide +kernel) ⟨Nat.le_of_ble_eq_true rfl, Nat.le_of_ble_eq_true rfl⟩) ⟨fun a U g mk q => by obtain ⟨q0, q1, qP, qK, qD, qS⟩ := q; exact ⟨q0, q1, qP, va_K.moved (u := U) (U := U.calling g mk a) (Vm.Alike.refl U.vm) qK, qD, SZ.same rfl rfl qS⟩, va_recv hK hP (ci := 4) (q0 := krd) rfl er_1532, fun U hU hW => ⟨rfl, by rw [hU], by rw [hU]; exact hP, va_K.moved hW.alike hK, hD.weaken (fun _ _ _ _ => trivial), hsz9.go hS hW hU hFc⟩⟩ rfl rfl hl.1 rfl (lv_room (Nat.le_of_ble_eq_true rfl)) dX4_readTest_121 ⟨Nat.le_of_ble_eq_true rfl, Nat.le_of_ble_eq_true rfl⟩) hS (fun q _ h => hFc q h) hFc (fun u t H1 locs ht hvm w_1548 hB hz1 hk1 hS => ?_)
      obtain ⟨ws_1549, ty_1550, hm_1551, ht_1553, hP1, hK1, hD1, hx_1552⟩ := hB
      rw [ht] at hP1
      have hK := va_K.moved hvm.symm hK1
      have hD := hD1.weaken (fun _ _ _ h => hFc _ h)
      generalize H1 = H at hP1 hS ⊢
      have hP := hP1
      obtain ⟨g_1555, e_1554, h_1556⟩ := hm_1551.obj er_1532
      obtain ⟨z_1557, z_1558, z_1559, z_1560, z_1561, z_1562, rfl⟩ := smX4 h_1556
      obtain ⟨g_1564, e_1563, h_1565⟩ := hm_1551.obj et_1533
      obtain ⟨z_1566, z_1567, z_1568, z_1569, rfl⟩ := smX6 h_1565
      obtain ⟨f_1571, e_1570⟩ := hm_1551.arrI ec_1536
      have u_1572 := ht_1553 _ _ uc_1537
      have e_1573 := hm_1551.keep (by rw [wb_1542]; omega) eb_1540
      have u_1574 := ht_1553 _ _ ub_1541
      have hsm := hsm.tr (hm_1551.mono (by decide))
      have htx := htx.tr ht_1553
      obtain ⟨hl_1575, hR_1576⟩ := hx_1552.resolve_right (fun h9 => h9.1 (by omega))
      obtain ⟨kc_1577, cc_1578, tc_1579, fc_1580, kb_1581, cb_1582, tb_1583, fb_1584, hp_1585, hT_1586, er_1587, et_1588, wr_1589, wt_1590, ec_1591, uc_1592, wc_1593, hc_1594, eb_1595, ub_1596, wb_1597, hb_1598⟩ := id hR_1576
      have hp_15851 := hp_1585.1
      have hp_1585t := teF_le (f := f9) hp_1585.1
      refine lv_iconst (v := 1) hx hb dX4_readTest_124 (by decide) ?_
      have ht9 : tstR f9 tl ts 0 p_1492 (10 + v_1311) 9 v_1493 := Or.inr ⟨p_1310, (Or.inr (Or.inr (Or.inl (⟨mn_37, v_1311, hn_1312, rfl⟩))) : whtR f9 tl ts 0 p_1310 (10 + v_1311)), Or.inr ⟨by omega, by omega, hn_1494⟩⟩
      have hg9 := tst_gain ht9 hp_91
      exact W.zret (v := 1) hx hb hr rfl (fun t ht hW => ⟨⟨1, 1, rfl, rfl, ws_1549, ty_1550, hsm, htx, by rw [ht]; exact hP, va_K.moved hW.alike hK, hD, ⟨0, p_1492, 10 + v_1311, 9, v_1493, ht9, Or.inr ⟨rfl, rfl, by omega, _, (⟨kc_1577, cc_1578, tc_1579, fc_1580, kb_1581, cb_1582, tb_1583, fb_1584, hp_1585, hT_1586, er_1587, et_1588, wr_1589, wt_1590, ec_1591, uc_1592, wc_1593, hc_1594, eb_1595, ub_1596, wb_1597, hb_1598⟩ : RSX ρ ws_1549 ty_1550 f9 rd krd tp ktp cd bb tl p_1492 (T ++ [(13, 10 + v_1311, 9, v_1493)]) nk fr fk fp (nI v_1493))⟩⟩⟩, hS.F ht⟩) hS.2.2 dX4_readTest_125
    have iw_1377 : wdE f9 tl p_1310 = 10 := iw_1377
    refine lv_istore_n (lv' := [(2, .int 1), (1, .int (nI (10 + v_1311))), (0, .ref rd)]) hx hb dX4_readTest_70 rfl hl (by decide) rfl (fun ls hl => ?_)
    refine lv_iload_n hx hb dX4_readTest_71 rfl (lv_at hl 0 rfl) ?_
    refine lv_if_ne (tgt := 92) hx hb dX4_readTest_72 (by decide) (fun c_1599 => ?_) (fun c_1599 => absurd c_1599 (by decide))
    refine lv_aload_n hx hb dX4_readTest_92 rfl (lv_at hl 2 rfl) ?_
    refine va_get (D := D) (ci := 4) (v := .ref tp) (C := RX4) (T := TX4) (N := 8) hx hb hts hin4 hown hK hP krd e_1370 rfl 0 (by decide) (hts (.fieldLink RX4 12 "HoneyHouse$RuleReader" "tape" "LHoneyHouse$Tape;") (List.mem_of_getElem? (i := 1) rfl)) (fun _ h9 => h9) rfl dX4_readTest_93 ?_
    have hFc := free_all hD hS hA
    refine va_callv (va_runV (As := []) (rest := []) ⟨hx, hb, hml, hown, hts⟩ (a_advance l D (rz [ktp]) ws_1365 ty_1366 f9 tp ktp tl (teF f9 tl p_1310) (nI (kdF f9 tl p_1310)) (nI p_1310) bb kb_1344 cb_1345 tb_1346 fb_1347 H.size htl hb_1361 hng (by omega) e_1371 e_1373 u_1375 (rz_o1 (pl_ne e_1373 e_1371 (by intro h9; simp at h9))) (rz_in (by simp))) (cwV 0 hts gX4_readTest_X6_advance rfl rfl rfl (by decide +kernel) ⟨Nat.le_of_ble_eq_true rfl, Nat.le_of_ble_eq_true rfl⟩) ⟨fun a U g mk q => by obtain ⟨q0, q1, qP, qK, qD⟩ := q; exact ⟨q0, q1, qP, va_K.moved (u := U) (U := U.calling g mk a) (Vm.Alike.refl U.vm) qK, qD⟩, va_recv hK hP (ci := 6) (q0 := ktp) rfl e_1371, fun U hU hW => ⟨rfl, by rw [hU], by rw [hU]; exact hP, va_K.moved hW.alike hK, hD.weaken (fun _ _ _ _ => trivial)⟩⟩ rfl rfl hl.1 rfl (lv_room (Nat.le_of_ble_eq_true rfl)) dX4_readTest_96 ⟨Nat.le_of_ble_eq_true rfl, Nat.le_of_ble_eq_true rfl⟩) hS (fun q _ h => hFc q h) hFc (fun u t H1 locs ht hvm w_1601 hB hz1 hk1 hS => ?_)
    obtain ⟨ws_1602, ty_1603, hm_1604, ht_1606, hP1, hK1, hD1, hx_1605⟩ := hB
    rw [ht] at hP1
    have hK := va_K.moved hvm.symm hK1
    have hD := hD1.weaken (fun _ _ _ h => hFc _ h)
    generalize H1 = H at hP1 hS ⊢
    have hP := hP1
    have e_1607 := hm_1604.keep (rz_o1 (pl_ne e_1370 e_1371 (by intro h9; simp at h9))) e_1370
    have e_1608 := hm_1604.keep (rz_o1 (pl_ne e_1372 e_1371 (by intro h9; simp at h9))) e_1372
    have e_1609 := hm_1604.keep (rz_o1 (pl_ne e_1373 e_1371 (by intro h9; simp at h9))) e_1373
    have u_1610 := ht_1606 _ _ u_1374
    have u_1611 := ht_1606 _ _ u_1375
    have hm_1612 : sm ρ [6] ws_1365 ws_1602 := hm_1604.up (fun k _ h => rz_u1 wt_1353 k h)
    have hsm := hsm.tr (hm_1612.mono (by decide))
    have htx := htx.tr ht_1606
    have e_1613 : ws_1602[ktp]? = some (tp, .inr (6, [.int (nI tl), .int (nI (kdF f9 tl (nxF f9 tl p_1310))), .int (nI (nxF f9 tl p_1310)), .int (nI (teF f9 tl (nxF f9 tl p_1310))), .ref bb])) := hx_1605; have hq_1614 : pcB f9 tl (nxF f9 tl p_1310) := nxF_pc (f := f9) hp_1348.1; have hq_16141 := hq_1614.1; have hq_1614t := teF_le (f := f9) hq_1614.1; have hg_1615 := nx_gain (f := f9) hp_1348.1
    refine lv_aload_n hx hb dX4_readTest_99 rfl (lv_at hl 2 rfl) ?_
    refine lv_sipush (v := 1000) hx hb dX4_readTest_100 (by decide) ?_
    have hFc := free_all hD hS hA
    refine va_calli (va_runV (As := [.int 1000]) (rest := []) ⟨hx, hb, hml, hown, hts⟩ (r_readNumber l D ρ ws_1602 ty_1603 adK adV fo f9 rd krd tp ktp cd bb tl (nxF f9 tl p_1310) T nk fr fk fp (nI v_1311) 1000 H.size htl hng (⟨kc_1340, cc_1341, tc_1342, fc_1343, kb_1344, cb_1345, tb_1346, fb_1347, hq_1614, hT_1349, e_1607, e_1613, wr_1352, wt_1353, e_1608, u_1610, wc_1356, hc_1357, e_1609, u_1611, wb_1360, hb_1361⟩ : RSX ρ ws_1602 ty_1603 f9 rd krd tp ktp cd bb tl (nxF f9 tl p_1310) T nk fr fk fp (nI v_1311)) (by omega)) (cwV 1 hts gX4_readTest_X4_readNumber rfl rfl rfl (by decide +kernel) ⟨Nat.le_of_ble_eq_true rfl, Nat.le_of_ble_eq_true rfl⟩) ⟨fun a U g mk q => by obtain ⟨q0, q1, qP, qK, qD, qS⟩ := q; exact ⟨q0, q1, qP, va_K.moved (u := U) (U := U.calling g mk a) (Vm.Alike.refl U.vm) qK, qD, SZ.same rfl rfl qS⟩, va_recv hK hP (ci := 4) (q0 := krd) rfl e_1607, fun U hU hW => ⟨rfl, by rw [hU], by rw [hU]; exact hP, va_K.moved hW.alike hK, hD.weaken (fun _ _ _ _ => trivial), hsz9.go hS hW hU hFc⟩⟩ rfl rfl hl.1 rfl (lv_room (Nat.le_of_ble_eq_true rfl)) dX4_readTest_103 ⟨Nat.le_of_ble_eq_true rfl, Nat.le_of_ble_eq_true rfl⟩) hS (fun q _ h => hFc q h) hFc (fun r_1616 u t H1 locs ht hvm w_1617 hB hz1 hk1 hS => ?_)
    subst w_1617
    obtain ⟨ws_1618, ty_1619, hm_1620, ht_1622, hP1, hK1, hD1, hx_1621⟩ := hB
    rw [ht] at hP1
    have hK := va_K.moved hvm.symm hK1
    have hD := hD1.weaken (fun _ _ _ h => hFc _ h)
    generalize H1 = H at hP1 hS ⊢
    have hP := hP1
    obtain ⟨g_1624, e_1623, h_1625⟩ := hm_1620.obj e_1607
    obtain ⟨z_1626, z_1627, z_1628, z_1629, z_1630, z_1631, rfl⟩ := smX4 h_1625
    obtain ⟨g_1633, e_1632, h_1634⟩ := hm_1620.obj e_1613
    obtain ⟨z_1635, z_1636, z_1637, z_1638, rfl⟩ := smX6 h_1634
    obtain ⟨f_1640, e_1639⟩ := hm_1620.arrI e_1608
    have u_1641 := ht_1622 _ _ u_1610
    have e_1642 := hm_1620.keep (by rw [wb_1360]; omega) e_1609
    have u_1643 := ht_1622 _ _ u_1611
    have hsm := hsm.tr (hm_1620.mono (by decide))
    have htx := htx.tr ht_1622
    obtain ⟨k_1644, p_1645, v_1646, hn_1647, ⟨rfl, hk_1648, hk_1649, vl_1650, hR_1651⟩ | ⟨rfl, hk_1648, hR_1651⟩⟩ := hx_1621
    · obtain ⟨kc_1652, cc_1653, tc_1654, fc_1655, kb_1656, cb_1657, tb_1658, fb_1659, hp_1660, hT_1661, er_1662, et_1663, wr_1664, wt_1665, ec_1666, uc_1667, wc_1668, hc_1669, eb_1670, ub_1671, wb_1672, hb_1673⟩ := id hR_1651
      have hp_16601 := hp_1660.1
      have hp_1660t := teF_le (f := f9) hp_1660.1
      refine lv_if_ne (tgt := 111) hx hb dX4_readTest_106 (by decide) (fun c_1674 => absurd (by decide) c_1674) (fun c_1674 => ?_)
      refine lv_iconst (v := 0) hx hb dX4_readTest_109 (by decide) ?_
      exact W.zret (v := 0) hx hb hr rfl (fun t ht hW => ⟨⟨0, 0, rfl, rfl, ws_1618, ty_1619, hsm, htx, by rw [ht]; exact hP, va_K.moved hW.alike hK, hD, ⟨k_1644, p_1645, 10 + v_1311, 10, v_1646, Or.inr ⟨p_1310, (Or.inr (Or.inr (Or.inl (⟨mn_37, v_1311, hn_1312, rfl⟩))) : whtR f9 tl ts 0 p_1310 (10 + v_1311)), Or.inr ⟨by omega, by omega, hn_1647⟩⟩, Or.inl ⟨rfl, hk_1648, by omega, _, _, (⟨kc_1652, cc_1653, tc_1654, fc_1655, kb_1656, cb_1657, tb_1658, fb_1659, hp_1660, hT_1661, er_1662, et_1663, wr_1664, wt_1665, ec_1666, uc_1667, wc_1668, hc_1669, eb_1670, ub_1671, wb_1672, hb_1673⟩ : RSX ρ ws_1618 ty_1619 f9 rd krd tp ktp cd bb tl (nxF f9 tl p_1310) T nk fr (nI k_1644) (nI p_1645) vl_1650)⟩⟩⟩, hS.F ht⟩) hS.2.2 dX4_readTest_110
    subst hk_1648
    obtain ⟨kc_1675, cc_1676, tc_1677, fc_1678, kb_1679, cb_1680, tb_1681, fb_1682, hp_1683, hT_1684, er_1685, et_1686, wr_1687, wt_1688, ec_1689, uc_1690, wc_1691, hc_1692, eb_1693, ub_1694, wb_1695, hb_1696⟩ := id hR_1651
    have hp_16831 := hp_1683.1
    have hp_1683t := teF_le (f := f9) hp_1683.1
    refine lv_if_ne (tgt := 111) hx hb dX4_readTest_106 (by decide) (fun c_1697 => ?_) (fun c_1697 => absurd c_1697 (by decide))
    have hg8 := tst_gain (Or.inr ⟨p_1310, (Or.inr (Or.inr (Or.inl (⟨mn_37, v_1311, hn_1312, rfl⟩))) : whtR f9 tl ts 0 p_1310 (10 + v_1311)), Or.inr ⟨by omega, by omega, hn_1647⟩⟩ : tstR f9 tl ts 0 p_1645 (10 + v_1311) 10 v_1646) hp_91
    refine lv_aload_n hx hb dX4_readTest_111 rfl (lv_at hl 2 rfl) ?_
    refine lv_iload_n hx hb dX4_readTest_112 rfl (lv_at hl 1 rfl) ?_
    refine lv_iload_n hx hb dX4_readTest_113 rfl (lv_at hl 0 rfl) ?_
    refine lv_aload_n hx hb dX4_readTest_114 rfl (lv_at hl 2 rfl) ?_
    refine va_get (D := D) (ci := 4) (v := .int (nI v_1646)) (C := RX4) (T := TX4) (N := 8) hx hb hts hin4 hown hK hP krd er_1685 rfl 7 (by decide) (hts (.fieldLink RX4 56 "HoneyHouse$RuleReader" "value" "I") (List.mem_of_getElem? (i := 2) rfl)) (fun _ h9 => h9) rfl dX4_readTest_115 ?_
    refine vp_callSi (W.runS (As := [.int (nI (10 + v_1311)), .int 1, .int (nI v_1646)]) (rest := [.ref rd]) ⟨hx, hb, hml, hown, hts⟩ (s_testCode1 l (10 + v_1311) v_1646) (va_cwS 3 hts gX4_readTest_X4_testCode rfl rfl rfl (by decide +kernel) ⟨Nat.le_of_ble_eq_true rfl, Nat.le_of_ble_eq_true rfl⟩) ⟨fun a U g mk q => q, fun U hU hW => ⟨rfl, trivial⟩⟩ rfl rfl hl.1 rfl (lv_room (Nat.le_of_ble_eq_true rfl)) dX4_readTest_118 ⟨Nat.le_of_ble_eq_true rfl, Nat.le_of_ble_eq_true rfl⟩) (fun r_1698 k_1699 => ?_)
    have hFc := free_all hD hS hA
    refine va_callv (va_runV (As := [.int r_1698]) (rest := []) ⟨hx, hb, hml, hown, hts⟩ (r_addCode l D ρ ws_1618 ty_1619 adK adV fo f9 rd krd tp ktp cd bb tl p_1645 T nk fr fk fp (nI v_1646) (13, 10 + v_1311, 10, v_1646) r_1698 H.size htl hng (⟨kc_1675, cc_1676, tc_1677, fc_1678, kb_1679, cb_1680, tb_1681, fb_1682, hp_1683, hT_1684, er_1685, et_1686, wr_1687, wt_1688, ec_1689, uc_1690, wc_1691, hc_1692, eb_1693, ub_1694, wb_1695, hb_1696⟩ : RSX ρ ws_1618 ty_1619 f9 rd krd tp ktp cd bb tl p_1645 T nk fr fk fp (nI v_1646)) k_1699) (cwV 1 hts gX4_readTest_X4_addCode rfl rfl rfl (by decide +kernel) ⟨Nat.le_of_ble_eq_true rfl, Nat.le_of_ble_eq_true rfl⟩) ⟨fun a U g mk q => by obtain ⟨q0, q1, qP, qK, qD, qS⟩ := q; exact ⟨q0, q1, qP, va_K.moved (u := U) (U := U.calling g mk a) (Vm.Alike.refl U.vm) qK, qD, SZ.same rfl rfl qS⟩, va_recv hK hP (ci := 4) (q0 := krd) rfl er_1685, fun U hU hW => ⟨rfl, by rw [hU], by rw [hU]; exact hP, va_K.moved hW.alike hK, hD.weaken (fun _ _ _ _ => trivial), hsz9.go hS hW hU hFc⟩⟩ rfl rfl hl.1 rfl (lv_room (Nat.le_of_ble_eq_true rfl)) dX4_readTest_121 ⟨Nat.le_of_ble_eq_true rfl, Nat.le_of_ble_eq_true rfl⟩) hS (fun q _ h => hFc q h) hFc (fun u t H1 locs ht hvm w_1701 hB hz1 hk1 hS => ?_)
    obtain ⟨ws_1702, ty_1703, hm_1704, ht_1706, hP1, hK1, hD1, hx_1705⟩ := hB
    rw [ht] at hP1
    have hK := va_K.moved hvm.symm hK1
    have hD := hD1.weaken (fun _ _ _ h => hFc _ h)
    generalize H1 = H at hP1 hS ⊢
    have hP := hP1
    obtain ⟨g_1708, e_1707, h_1709⟩ := hm_1704.obj er_1685
    obtain ⟨z_1710, z_1711, z_1712, z_1713, z_1714, z_1715, rfl⟩ := smX4 h_1709
    obtain ⟨g_1717, e_1716, h_1718⟩ := hm_1704.obj et_1686
    obtain ⟨z_1719, z_1720, z_1721, z_1722, rfl⟩ := smX6 h_1718
    obtain ⟨f_1724, e_1723⟩ := hm_1704.arrI ec_1689
    have u_1725 := ht_1706 _ _ uc_1690
    have e_1726 := hm_1704.keep (by rw [wb_1695]; omega) eb_1693
    have u_1727 := ht_1706 _ _ ub_1694
    have hsm := hsm.tr (hm_1704.mono (by decide))
    have htx := htx.tr ht_1706
    obtain ⟨hl_1728, hR_1729⟩ := hx_1705.resolve_right (fun h9 => h9.1 (by omega))
    obtain ⟨kc_1730, cc_1731, tc_1732, fc_1733, kb_1734, cb_1735, tb_1736, fb_1737, hp_1738, hT_1739, er_1740, et_1741, wr_1742, wt_1743, ec_1744, uc_1745, wc_1746, hc_1747, eb_1748, ub_1749, wb_1750, hb_1751⟩ := id hR_1729
    have hp_17381 := hp_1738.1
    have hp_1738t := teF_le (f := f9) hp_1738.1
    refine lv_iconst (v := 1) hx hb dX4_readTest_124 (by decide) ?_
    have ht9 : tstR f9 tl ts 0 p_1645 (10 + v_1311) 10 v_1646 := Or.inr ⟨p_1310, (Or.inr (Or.inr (Or.inl (⟨mn_37, v_1311, hn_1312, rfl⟩))) : whtR f9 tl ts 0 p_1310 (10 + v_1311)), Or.inr ⟨by omega, by omega, hn_1647⟩⟩
    have hg9 := tst_gain ht9 hp_91
    exact W.zret (v := 1) hx hb hr rfl (fun t ht hW => ⟨⟨1, 1, rfl, rfl, ws_1702, ty_1703, hsm, htx, by rw [ht]; exact hP, va_K.moved hW.alike hK, hD, ⟨0, p_1645, 10 + v_1311, 10, v_1646, ht9, Or.inr ⟨rfl, rfl, by omega, _, (⟨kc_1730, cc_1731, tc_1732, fc_1733, kb_1734, cb_1735, tb_1736, fb_1737, hp_1738, hT_1739, er_1740, et_1741, wr_1742, wt_1743, ec_1744, uc_1745, wc_1746, hc_1747, eb_1748, ub_1749, wb_1750, hb_1751⟩ : RSX ρ ws_1702 ty_1703 f9 rd krd tp ktp cd bb tl p_1645 (T ++ [(13, 10 + v_1311, 10, v_1646)]) nk fr fk fp (nI v_1646))⟩⟩⟩, hS.F ht⟩) hS.2.2 dX4_readTest_125
  · refine lv_istore_n (lv' := [(1, .int 30), (0, .ref rd)]) hx hb dX4_readTest_4 rfl hl (by decide) rfl (fun ls hl => ?_)
    refine lv_iload_n hx hb dX4_readTest_5 rfl (lv_at hl 0 rfl) ?_
    refine lv_iconst (v := (-1)) hx hb dX4_readTest_6 (by decide) ?_
    refine lv_icmp_ne (tgt := 15) hx hb dX4_readTest_7 (by decide) (fun c_1752 => ?_) (fun c_1752 => absurd c_1752 (by decide))
    refine lv_aload_n hx hb dX4_readTest_15 rfl (lv_at hl 1 rfl) ?_
    refine va_get (D := D) (ci := 4) (v := .ref tp) (C := RX4) (T := TX4) (N := 8) hx hb hts hin4 hown hK hP krd e_30 rfl 0 (by decide) (hts (.fieldLink RX4 12 "HoneyHouse$RuleReader" "tape" "LHoneyHouse$Tape;") (List.mem_of_getElem? (i := 1) rfl)) (fun _ h9 => h9) rfl dX4_readTest_16 ?_
    have hFc := free_all hD hS hA
    refine va_callv (va_runV (As := []) (rest := []) ⟨hx, hb, hml, hown, hts⟩ (a_advance l D (rz [ktp]) ws_25 ty_26 f9 tp ktp tl (teF f9 tl ts) (nI (kdF f9 tl ts)) (nI ts) bb kb_5 cb_6 tb_7 fb_8 H.size htl hb_22 hng (by omega) e_31 e_33 u_35 (rz_o1 (pl_ne e_33 e_31 (by intro h9; simp at h9))) (rz_in (by simp))) (cwV 0 hts gX4_readTest_X6_advance rfl rfl rfl (by decide +kernel) ⟨Nat.le_of_ble_eq_true rfl, Nat.le_of_ble_eq_true rfl⟩) ⟨fun a U g mk q => by obtain ⟨q0, q1, qP, qK, qD⟩ := q; exact ⟨q0, q1, qP, va_K.moved (u := U) (U := U.calling g mk a) (Vm.Alike.refl U.vm) qK, qD⟩, va_recv hK hP (ci := 6) (q0 := ktp) rfl e_31, fun U hU hW => ⟨rfl, by rw [hU], by rw [hU]; exact hP, va_K.moved hW.alike hK, hD.weaken (fun _ _ _ _ => trivial)⟩⟩ rfl rfl hl.1 rfl (lv_room (Nat.le_of_ble_eq_true rfl)) dX4_readTest_19 ⟨Nat.le_of_ble_eq_true rfl, Nat.le_of_ble_eq_true rfl⟩) hS (fun q _ h => hFc q h) hFc (fun u t H1 locs ht hvm w_1754 hB hz1 hk1 hS => ?_)
    obtain ⟨ws_1755, ty_1756, hm_1757, ht_1759, hP1, hK1, hD1, hx_1758⟩ := hB
    rw [ht] at hP1
    have hK := va_K.moved hvm.symm hK1
    have hD := hD1.weaken (fun _ _ _ h => hFc _ h)
    generalize H1 = H at hP1 hS ⊢
    have hP := hP1
    have e_1760 := hm_1757.keep (rz_o1 (pl_ne e_30 e_31 (by intro h9; simp at h9))) e_30
    have e_1761 := hm_1757.keep (rz_o1 (pl_ne e_32 e_31 (by intro h9; simp at h9))) e_32
    have e_1762 := hm_1757.keep (rz_o1 (pl_ne e_33 e_31 (by intro h9; simp at h9))) e_33
    have u_1763 := ht_1759 _ _ u_34
    have u_1764 := ht_1759 _ _ u_35
    have hm_1765 : sm ρ [6] ws_25 ws_1755 := hm_1757.up (fun k _ h => rz_u1 wt_14 k h)
    have hsm := hsm.tr (hm_1765.mono (by decide))
    have htx := htx.tr ht_1759
    have e_1766 : ws_1755[ktp]? = some (tp, .inr (6, [.int (nI tl), .int (nI (kdF f9 tl (nxF f9 tl ts))), .int (nI (nxF f9 tl ts)), .int (nI (teF f9 tl (nxF f9 tl ts))), .ref bb])) := hx_1758; have hq_1767 : pcB f9 tl (nxF f9 tl ts) := nxF_pc (f := f9) hp_9.1; have hq_17671 := hq_1767.1; have hq_1767t := teF_le (f := f9) hq_1767.1; have hg_1768 := nx_gain (f := f9) hp_9.1
    refine lv_iload_n hx hb dX4_readTest_22 rfl (lv_at hl 0 rfl) ?_
    refine lv_bipush (v := 10) hx hb dX4_readTest_23 (by decide) ?_
    refine lv_icmp_eq (tgt := 34) hx hb dX4_readTest_25 (by decide) (fun c_1769 => absurd c_1769 (by decide)) (fun c_1769 => ?_)
    refine lv_iload_n hx hb dX4_readTest_28 rfl (lv_at hl 0 rfl) ?_
    refine lv_bipush (v := 30) hx hb dX4_readTest_29 (by decide) ?_
    refine lv_icmp_ne (tgt := 61) hx hb dX4_readTest_31 (by decide) (fun c_1770 => absurd (by decide) c_1770) (fun c_1770 => ?_)
    refine lv_aload_n hx hb dX4_readTest_34 rfl (lv_at hl 1 rfl) ?_
    refine lv_iload_n hx hb dX4_readTest_35 rfl (lv_at hl 0 rfl) ?_
    refine lv_bipush (v := 30) hx hb dX4_readTest_36 (by decide) ?_
    refine lv_icmp_ne (tgt := 45) hx hb dX4_readTest_38 (by decide) (fun c_1771 => absurd (by decide) c_1771) (fun c_1771 => ?_)
    refine lv_iconst (v := 3) hx hb dX4_readTest_41 (by decide) ?_
    refine lv_goto (tgt := 46) hx hb dX4_readTest_42 (by decide) ?_
    have hFc := free_all hD hS hA
    refine va_calli (va_runV (As := [.int 3]) (rest := []) ⟨hx, hb, hml, hown, hts⟩ (r_readNumber l D ρ ws_1755 ty_1756 adK adV fo f9 rd krd tp ktp cd bb tl (nxF f9 tl ts) T nk fr fk fp vl 3 H.size htl hng (⟨kc_1, cc_2, tc_3, fc_4, kb_5, cb_6, tb_7, fb_8, hq_1767, hT_10, e_1760, e_1766, wr_13, wt_14, e_1761, u_1763, wc_17, hc_18, e_1762, u_1764, wb_21, hb_22⟩ : RSX ρ ws_1755 ty_1756 f9 rd krd tp ktp cd bb tl (nxF f9 tl ts) T nk fr fk fp vl) (by omega)) (cwV 1 hts gX4_readTest_X4_readNumber rfl rfl rfl (by decide +kernel) ⟨Nat.le_of_ble_eq_true rfl, Nat.le_of_ble_eq_true rfl⟩) ⟨fun a U g mk q => by obtain ⟨q0, q1, qP, qK, qD, qS⟩ := q; exact ⟨q0, q1, qP, va_K.moved (u := U) (U := U.calling g mk a) (Vm.Alike.refl U.vm) qK, qD, SZ.same rfl rfl qS⟩, va_recv hK hP (ci := 4) (q0 := krd) rfl e_1760, fun U hU hW => ⟨rfl, by rw [hU], by rw [hU]; exact hP, va_K.moved hW.alike hK, hD.weaken (fun _ _ _ _ => trivial), hsz9.go hS hW hU hFc⟩⟩ rfl rfl hl.1 rfl (lv_room (Nat.le_of_ble_eq_true rfl)) dX4_readTest_46 ⟨Nat.le_of_ble_eq_true rfl, Nat.le_of_ble_eq_true rfl⟩) hS (fun q _ h => hFc q h) hFc (fun r_1772 u t H1 locs ht hvm w_1773 hB hz1 hk1 hS => ?_)
    subst w_1773
    obtain ⟨ws_1774, ty_1775, hm_1776, ht_1778, hP1, hK1, hD1, hx_1777⟩ := hB
    rw [ht] at hP1
    have hK := va_K.moved hvm.symm hK1
    have hD := hD1.weaken (fun _ _ _ h => hFc _ h)
    generalize H1 = H at hP1 hS ⊢
    have hP := hP1
    obtain ⟨g_1780, e_1779, h_1781⟩ := hm_1776.obj e_1760
    obtain ⟨z_1782, z_1783, z_1784, z_1785, z_1786, z_1787, rfl⟩ := smX4 h_1781
    obtain ⟨g_1789, e_1788, h_1790⟩ := hm_1776.obj e_1766
    obtain ⟨z_1791, z_1792, z_1793, z_1794, rfl⟩ := smX6 h_1790
    obtain ⟨f_1796, e_1795⟩ := hm_1776.arrI e_1761
    have u_1797 := ht_1778 _ _ u_1763
    have e_1798 := hm_1776.keep (by rw [wb_21]; omega) e_1762
    have u_1799 := ht_1778 _ _ u_1764
    have hsm := hsm.tr (hm_1776.mono (by decide))
    have htx := htx.tr ht_1778
    obtain ⟨k_1800, p_1801, v_1802, hn_1803, ⟨rfl, hk_1804, hk_1805, vl_1806, hR_1807⟩ | ⟨rfl, hk_1804, hR_1807⟩⟩ := hx_1777
    · obtain ⟨kc_1808, cc_1809, tc_1810, fc_1811, kb_1812, cb_1813, tb_1814, fb_1815, hp_1816, hT_1817, er_1818, et_1819, wr_1820, wt_1821, ec_1822, uc_1823, wc_1824, hc_1825, eb_1826, ub_1827, wb_1828, hb_1829⟩ := id hR_1807
      have hp_18161 := hp_1816.1
      have hp_1816t := teF_le (f := f9) hp_1816.1
      refine lv_if_ne (tgt := 54) hx hb dX4_readTest_49 (by decide) (fun c_1830 => absurd (by decide) c_1830) (fun c_1830 => ?_)
      refine lv_iconst (v := 0) hx hb dX4_readTest_52 (by decide) ?_
      exact W.zret (v := 0) hx hb hr rfl (fun t ht hW => ⟨⟨0, 0, rfl, rfl, ws_1774, ty_1775, hsm, htx, by rw [ht]; exact hP, va_K.moved hW.alike hK, hD, ⟨k_1800, p_1801, 0, 0, 0, Or.inl ⟨_, (Or.inr (Or.inr (Or.inr (⟨mn_37, v_1802, hn_1803, rfl⟩))) : whtR f9 tl ts k_1800 p_1801 (30 + v_1802)), hk_1804⟩, Or.inl ⟨rfl, hk_1804, by omega, _, _, (⟨kc_1808, cc_1809, tc_1810, fc_1811, kb_1812, cb_1813, tb_1814, fb_1815, hp_1816, hT_1817, er_1818, et_1819, wr_1820, wt_1821, ec_1822, uc_1823, wc_1824, hc_1825, eb_1826, ub_1827, wb_1828, hb_1829⟩ : RSX ρ ws_1774 ty_1775 f9 rd krd tp ktp cd bb tl (nxF f9 tl ts) T nk fr (nI k_1800) (nI p_1801) vl_1806)⟩⟩⟩, hS.F ht⟩) hS.2.2 dX4_readTest_53
    subst hk_1804
    obtain ⟨kc_1831, cc_1832, tc_1833, fc_1834, kb_1835, cb_1836, tb_1837, fb_1838, hp_1839, hT_1840, er_1841, et_1842, wr_1843, wt_1844, ec_1845, uc_1846, wc_1847, hc_1848, eb_1849, ub_1850, wb_1851, hb_1852⟩ := id hR_1807
    have hp_18391 := hp_1839.1
    have hp_1839t := teF_le (f := f9) hp_1839.1
    refine lv_if_ne (tgt := 54) hx hb dX4_readTest_49 (by decide) (fun c_1853 => ?_) (fun c_1853 => absurd c_1853 (by decide))
    refine lv_iload_n hx hb dX4_readTest_54 rfl (lv_at hl 0 rfl) ?_
    refine lv_aload_n hx hb dX4_readTest_55 rfl (lv_at hl 1 rfl) ?_
    refine va_get (D := D) (ci := 4) (v := .int (nI v_1802)) (C := RX4) (T := TX4) (N := 8) hx hb hts hin4 hown hK hP krd er_1841 rfl 7 (by decide) (hts (.fieldLink RX4 56 "HoneyHouse$RuleReader" "value" "I") (List.mem_of_getElem? (i := 2) rfl)) (fun _ h9 => h9) rfl dX4_readTest_56 ?_
    refine lv_iadd hx hb dX4_readTest_59 ?_
    refine tp_i (y := nI (30 + v_1802)) (nI_add 30 v_1802) ?_
    refine lv_istore_n (lv' := [(1, .int (nI (30 + v_1802))), (0, .ref rd)]) hx hb dX4_readTest_60 rfl hl (by decide) rfl (fun ls hl => ?_)
    refine lv_aload_n hx hb dX4_readTest_61 rfl (lv_at hl 1 rfl) ?_
    refine va_get (D := D) (ci := 4) (v := .ref tp) (C := RX4) (T := TX4) (N := 8) hx hb hts hin4 hown hK hP krd er_1841 rfl 0 (by decide) (hts (.fieldLink RX4 12 "HoneyHouse$RuleReader" "tape" "LHoneyHouse$Tape;") (List.mem_of_getElem? (i := 1) rfl)) (fun _ h9 => h9) rfl dX4_readTest_62 ?_
    refine va_ldcS hx hb hown hsz9.2.2.2.2.2.2.2.2.1 dX4_readTest_65 ?_
    have hFc := free_all hD hS hA
    refine va_calli (va_runV (As := [.ref (adK 5)]) (rest := []) ⟨hx, hb, hml, hown, hts⟩ (a_isWord l D (rz []) ws_1774 ty_1775 adK adV fo 5 f9 tp ktp tl p_1801 bb kb_1835 cb_1836 tb_1837 fb_1838 H.size (by decide) htl hb_1852 hng hp_1839 et_1842 eb_1849 ub_1850 rz_o0) (cwV 1 hts gX4_readTest_X6_isWord rfl rfl rfl (by decide +kernel) ⟨Nat.le_of_ble_eq_true rfl, Nat.le_of_ble_eq_true rfl⟩) ⟨fun a U g mk q => by obtain ⟨q0, q1, qP, qK, qD, qS⟩ := q; exact ⟨q0, q1, qP, va_K.moved (u := U) (U := U.calling g mk a) (Vm.Alike.refl U.vm) qK, qD, SZ.same rfl rfl qS⟩, va_recv hK hP (ci := 6) (q0 := ktp) rfl et_1842, fun U hU hW => ⟨rfl, by rw [hU], by rw [hU]; exact hP, va_K.moved hW.alike hK, hD.weaken (fun _ _ _ _ => trivial), hsz9.go hS hW hU hFc⟩⟩ rfl rfl hl.1 rfl (lv_room (Nat.le_of_ble_eq_true rfl)) dX4_readTest_67 ⟨Nat.le_of_ble_eq_true rfl, Nat.le_of_ble_eq_true rfl⟩) hS (fun q _ h => hFc q h) hFc (fun r_1854 u t H1 locs ht hvm w_1855 hB hz1 hk1 hS => ?_)
    obtain ⟨ws_1856, ty_1857, hm_1858, ht_1860, hP1, hK1, hD1, hx_1859⟩ := hB
    rw [ht] at hP1
    have hK := va_K.moved hvm.symm hK1
    have hD := hD1.weaken (fun _ _ _ h => hFc _ h)
    generalize H1 = H at hP1 hS ⊢
    have hP := hP1
    have e_1861 := hm_1858.keep rz_o0 er_1841
    have e_1862 := hm_1858.keep rz_o0 et_1842
    have e_1863 := hm_1858.keep rz_o0 ec_1845
    have e_1864 := hm_1858.keep rz_o0 eb_1849
    have u_1865 := ht_1860 _ _ uc_1846
    have u_1866 := ht_1860 _ _ ub_1850
    have hm_1867 : sm ρ [] ws_1774 ws_1856 := hm_1858.up (fun k _ h => rz_u0  k h)
    have hsm := hsm.tr (hm_1867.mono (by decide))
    have htx := htx.tr ht_1860
    rcases w_1855 with ⟨rfl, iw_1868⟩ | ⟨rfl, iw_1868⟩
    · have iw_1868 : ¬ wdE f9 tl p_1801 = 10 := iw_1868
      refine lv_istore_n (lv' := [(2, .int 0), (1, .int (nI (30 + v_1802))), (0, .ref rd)]) hx hb dX4_readTest_70 rfl hl (by decide) rfl (fun ls hl => ?_)
      refine lv_iload_n hx hb dX4_readTest_71 rfl (lv_at hl 0 rfl) ?_
      refine lv_if_ne (tgt := 92) hx hb dX4_readTest_72 (by decide) (fun c_1869 => absurd (by decide) c_1869) (fun c_1869 => ?_)
      refine lv_aload_n hx hb dX4_readTest_75 rfl (lv_at hl 2 rfl) ?_
      refine va_get (D := D) (ci := 4) (v := .ref tp) (C := RX4) (T := TX4) (N := 8) hx hb hts hin4 hown hK hP krd e_1861 rfl 0 (by decide) (hts (.fieldLink RX4 12 "HoneyHouse$RuleReader" "tape" "LHoneyHouse$Tape;") (List.mem_of_getElem? (i := 1) rfl)) (fun _ h9 => h9) rfl dX4_readTest_76 ?_
      refine va_ldcS hx hb hown hsz9.2.2.2.2.2.2.2.1 dX4_readTest_79 ?_
      have hFc := free_all hD hS hA
      refine va_calli (va_runV (As := [.ref (adK 4)]) (rest := []) ⟨hx, hb, hml, hown, hts⟩ (a_isWord l D (rz []) ws_1856 ty_1857 adK adV fo 4 f9 tp ktp tl p_1801 bb kb_1835 cb_1836 tb_1837 fb_1838 H.size (by decide) htl hb_1852 hng hp_1839 e_1862 e_1864 u_1866 rz_o0) (cwV 1 hts gX4_readTest_X6_isWord rfl rfl rfl (by decide +kernel) ⟨Nat.le_of_ble_eq_true rfl, Nat.le_of_ble_eq_true rfl⟩) ⟨fun a U g mk q => by obtain ⟨q0, q1, qP, qK, qD, qS⟩ := q; exact ⟨q0, q1, qP, va_K.moved (u := U) (U := U.calling g mk a) (Vm.Alike.refl U.vm) qK, qD, SZ.same rfl rfl qS⟩, va_recv hK hP (ci := 6) (q0 := ktp) rfl e_1862, fun U hU hW => ⟨rfl, by rw [hU], by rw [hU]; exact hP, va_K.moved hW.alike hK, hD.weaken (fun _ _ _ _ => trivial), hsz9.go hS hW hU hFc⟩⟩ rfl rfl hl.1 rfl (lv_room (Nat.le_of_ble_eq_true rfl)) dX4_readTest_81 ⟨Nat.le_of_ble_eq_true rfl, Nat.le_of_ble_eq_true rfl⟩) hS (fun q _ h => hFc q h) hFc (fun r_1870 u t H1 locs ht hvm w_1871 hB hz1 hk1 hS => ?_)
      obtain ⟨ws_1872, ty_1873, hm_1874, ht_1876, hP1, hK1, hD1, hx_1875⟩ := hB
      rw [ht] at hP1
      have hK := va_K.moved hvm.symm hK1
      have hD := hD1.weaken (fun _ _ _ h => hFc _ h)
      generalize H1 = H at hP1 hS ⊢
      have hP := hP1
      have e_1877 := hm_1874.keep rz_o0 e_1861
      have e_1878 := hm_1874.keep rz_o0 e_1862
      have e_1879 := hm_1874.keep rz_o0 e_1863
      have e_1880 := hm_1874.keep rz_o0 e_1864
      have u_1881 := ht_1876 _ _ u_1865
      have u_1882 := ht_1876 _ _ u_1866
      have hm_1883 : sm ρ [] ws_1856 ws_1872 := hm_1874.up (fun k _ h => rz_u0  k h)
      have hsm := hsm.tr (hm_1883.mono (by decide))
      have htx := htx.tr ht_1876
      rcases w_1871 with ⟨rfl, iw_1884⟩ | ⟨rfl, iw_1884⟩
      · have iw_1884 : ¬ wdE f9 tl p_1801 = 9 := iw_1884
        refine lv_if_ne (tgt := 92) hx hb dX4_readTest_84 (by decide) (fun c_1885 => absurd (by decide) c_1885) (fun c_1885 => ?_)
        refine lv_aload_n hx hb dX4_readTest_87 rfl (lv_at hl 2 rfl) ?_
        have hFc := free_all hD hS hA
        refine va_calli (va_runV (As := []) (rest := []) ⟨hx, hb, hml, hown, hts⟩ (r_failHere l D ρ ws_1872 ty_1873 adK adV fo f9 rd krd tp ktp cd bb tl p_1801 T nk fr fk fp (nI v_1802)  H.size htl hng (⟨kc_1831, cc_1832, tc_1833, fc_1834, kb_1835, cb_1836, tb_1837, fb_1838, hp_1839, hT_1840, e_1877, e_1878, wr_1843, wt_1844, e_1879, u_1881, wc_1847, hc_1848, e_1880, u_1882, wb_1851, hb_1852⟩ : RSX ρ ws_1872 ty_1873 f9 rd krd tp ktp cd bb tl p_1801 T nk fr fk fp (nI v_1802)) ) (cwV 0 hts gX4_readTest_X4_failHere rfl rfl rfl (by decide +kernel) ⟨Nat.le_of_ble_eq_true rfl, Nat.le_of_ble_eq_true rfl⟩) ⟨fun a U g mk q => by obtain ⟨q0, q1, qP, qK, qD, qS⟩ := q; exact ⟨q0, q1, qP, va_K.moved (u := U) (U := U.calling g mk a) (Vm.Alike.refl U.vm) qK, qD, SZ.same rfl rfl qS⟩, va_recv hK hP (ci := 4) (q0 := krd) rfl e_1877, fun U hU hW => ⟨rfl, by rw [hU], by rw [hU]; exact hP, va_K.moved hW.alike hK, hD.weaken (fun _ _ _ _ => trivial), hsz9.go hS hW hU hFc⟩⟩ rfl rfl hl.1 rfl (lv_room (Nat.le_of_ble_eq_true rfl)) dX4_readTest_88 ⟨Nat.le_of_ble_eq_true rfl, Nat.le_of_ble_eq_true rfl⟩) hS (fun q _ h => hFc q h) hFc (fun r_1886 u t H1 locs ht hvm w_1887 hB hz1 hk1 hS => ?_)
        subst w_1887
        obtain ⟨ws_1888, ty_1889, hm_1890, ht_1892, hP1, hK1, hD1, hx_1891⟩ := hB
        rw [ht] at hP1
        have hK := va_K.moved hvm.symm hK1
        have hD := hD1.weaken (fun _ _ _ h => hFc _ h)
        generalize H1 = H at hP1 hS ⊢
        have hP := hP1
        obtain ⟨g_1894, e_1893, h_1895⟩ := hm_1890.obj e_1877
        obtain ⟨z_1896, z_1897, z_1898, z_1899, z_1900, z_1901, rfl⟩ := smX4 h_1895
        obtain ⟨g_1903, e_1902, h_1904⟩ := hm_1890.obj e_1878
        obtain ⟨z_1905, z_1906, z_1907, z_1908, rfl⟩ := smX6 h_1904
        obtain ⟨f_1910, e_1909⟩ := hm_1890.arrI e_1879
        have u_1911 := ht_1892 _ _ u_1881
        have e_1912 := hm_1890.keep (by rw [wb_1851]; omega) e_1880
        have u_1913 := ht_1892 _ _ u_1882
        have hsm := hsm.tr (hm_1890.mono (by decide))
        have htx := htx.tr ht_1892
        obtain ⟨rfl, hR_1914⟩ := hx_1891
        obtain ⟨kc_1915, cc_1916, tc_1917, fc_1918, kb_1919, cb_1920, tb_1921, fb_1922, hp_1923, hT_1924, er_1925, et_1926, wr_1927, wt_1928, ec_1929, uc_1930, wc_1931, hc_1932, eb_1933, ub_1934, wb_1935, hb_1936⟩ := id hR_1914
        have hp_19231 := hp_1923.1
        have hp_1923t := teF_le (f := f9) hp_1923.1
        exact W.zret (v := 0) hx hb hr rfl (fun t ht hW => ⟨⟨0, 0, rfl, rfl, ws_1888, ty_1889, hsm, htx, by rw [ht]; exact hP, va_K.moved hW.alike hK, hD, ⟨1, p_1801, 30 + v_1802, 0, 0, Or.inr ⟨p_1801, (Or.inr (Or.inr (Or.inr (⟨mn_37, v_1802, hn_1803, rfl⟩))) : whtR f9 tl ts 0 p_1801 (30 + v_1802)), Or.inl ⟨by omega, rfl, rfl⟩⟩, Or.inl ⟨rfl, by omega, by omega, _, _, (⟨kc_1915, cc_1916, tc_1917, fc_1918, kb_1919, cb_1920, tb_1921, fb_1922, hp_1923, hT_1924, er_1925, et_1926, wr_1927, wt_1928, ec_1929, uc_1930, wc_1931, hc_1932, eb_1933, ub_1934, wb_1935, hb_1936⟩ : RSX ρ ws_1888 ty_1889 f9 rd krd tp ktp cd bb tl p_1801 T nk fr 1 (nI p_1801) (nI v_1802))⟩⟩⟩, hS.F ht⟩) hS.2.2 dX4_readTest_91
      have iw_1884 : wdE f9 tl p_1801 = 9 := iw_1884
      refine lv_if_ne (tgt := 92) hx hb dX4_readTest_84 (by decide) (fun c_1937 => ?_) (fun c_1937 => absurd c_1937 (by decide))
      refine lv_aload_n hx hb dX4_readTest_92 rfl (lv_at hl 2 rfl) ?_
      refine va_get (D := D) (ci := 4) (v := .ref tp) (C := RX4) (T := TX4) (N := 8) hx hb hts hin4 hown hK hP krd e_1877 rfl 0 (by decide) (hts (.fieldLink RX4 12 "HoneyHouse$RuleReader" "tape" "LHoneyHouse$Tape;") (List.mem_of_getElem? (i := 1) rfl)) (fun _ h9 => h9) rfl dX4_readTest_93 ?_
      have hFc := free_all hD hS hA
      refine va_callv (va_runV (As := []) (rest := []) ⟨hx, hb, hml, hown, hts⟩ (a_advance l D (rz [ktp]) ws_1872 ty_1873 f9 tp ktp tl (teF f9 tl p_1801) (nI (kdF f9 tl p_1801)) (nI p_1801) bb kb_1835 cb_1836 tb_1837 fb_1838 H.size htl hb_1852 hng (by omega) e_1878 e_1880 u_1882 (rz_o1 (pl_ne e_1880 e_1878 (by intro h9; simp at h9))) (rz_in (by simp))) (cwV 0 hts gX4_readTest_X6_advance rfl rfl rfl (by decide +kernel) ⟨Nat.le_of_ble_eq_true rfl, Nat.le_of_ble_eq_true rfl⟩) ⟨fun a U g mk q => by obtain ⟨q0, q1, qP, qK, qD⟩ := q; exact ⟨q0, q1, qP, va_K.moved (u := U) (U := U.calling g mk a) (Vm.Alike.refl U.vm) qK, qD⟩, va_recv hK hP (ci := 6) (q0 := ktp) rfl e_1878, fun U hU hW => ⟨rfl, by rw [hU], by rw [hU]; exact hP, va_K.moved hW.alike hK, hD.weaken (fun _ _ _ _ => trivial)⟩⟩ rfl rfl hl.1 rfl (lv_room (Nat.le_of_ble_eq_true rfl)) dX4_readTest_96 ⟨Nat.le_of_ble_eq_true rfl, Nat.le_of_ble_eq_true rfl⟩) hS (fun q _ h => hFc q h) hFc (fun u t H1 locs ht hvm w_1939 hB hz1 hk1 hS => ?_)
      obtain ⟨ws_1940, ty_1941, hm_1942, ht_1944, hP1, hK1, hD1, hx_1943⟩ := hB
      rw [ht] at hP1
      have hK := va_K.moved hvm.symm hK1
      have hD := hD1.weaken (fun _ _ _ h => hFc _ h)
      generalize H1 = H at hP1 hS ⊢
      have hP := hP1
      have e_1945 := hm_1942.keep (rz_o1 (pl_ne e_1877 e_1878 (by intro h9; simp at h9))) e_1877
      have e_1946 := hm_1942.keep (rz_o1 (pl_ne e_1879 e_1878 (by intro h9; simp at h9))) e_1879
      have e_1947 := hm_1942.keep (rz_o1 (pl_ne e_1880 e_1878 (by intro h9; simp at h9))) e_1880
      have u_1948 := ht_1944 _ _ u_1881
      have u_1949 := ht_1944 _ _ u_1882
      have hm_1950 : sm ρ [6] ws_1872 ws_1940 := hm_1942.up (fun k _ h => rz_u1 wt_1844 k h)
      have hsm := hsm.tr (hm_1950.mono (by decide))
      have htx := htx.tr ht_1944
      have e_1951 : ws_1940[ktp]? = some (tp, .inr (6, [.int (nI tl), .int (nI (kdF f9 tl (nxF f9 tl p_1801))), .int (nI (nxF f9 tl p_1801)), .int (nI (teF f9 tl (nxF f9 tl p_1801))), .ref bb])) := hx_1943; have hq_1952 : pcB f9 tl (nxF f9 tl p_1801) := nxF_pc (f := f9) hp_1839.1; have hq_19521 := hq_1952.1; have hq_1952t := teF_le (f := f9) hq_1952.1; have hg_1953 := nx_gain (f := f9) hp_1839.1
      refine lv_aload_n hx hb dX4_readTest_99 rfl (lv_at hl 2 rfl) ?_
      refine lv_sipush (v := 1000) hx hb dX4_readTest_100 (by decide) ?_
      have hFc := free_all hD hS hA
      refine va_calli (va_runV (As := [.int 1000]) (rest := []) ⟨hx, hb, hml, hown, hts⟩ (r_readNumber l D ρ ws_1940 ty_1941 adK adV fo f9 rd krd tp ktp cd bb tl (nxF f9 tl p_1801) T nk fr fk fp (nI v_1802) 1000 H.size htl hng (⟨kc_1831, cc_1832, tc_1833, fc_1834, kb_1835, cb_1836, tb_1837, fb_1838, hq_1952, hT_1840, e_1945, e_1951, wr_1843, wt_1844, e_1946, u_1948, wc_1847, hc_1848, e_1947, u_1949, wb_1851, hb_1852⟩ : RSX ρ ws_1940 ty_1941 f9 rd krd tp ktp cd bb tl (nxF f9 tl p_1801) T nk fr fk fp (nI v_1802)) (by omega)) (cwV 1 hts gX4_readTest_X4_readNumber rfl rfl rfl (by decide +kernel) ⟨Nat.le_of_ble_eq_true rfl, Nat.le_of_ble_eq_true rfl⟩) ⟨fun a U g mk q => by obtain ⟨q0, q1, qP, qK, qD, qS⟩ := q; exact ⟨q0, q1, qP, va_K.moved (u := U) (U := U.calling g mk a) (Vm.Alike.refl U.vm) qK, qD, SZ.same rfl rfl qS⟩, va_recv hK hP (ci := 4) (q0 := krd) rfl e_1945, fun U hU hW => ⟨rfl, by rw [hU], by rw [hU]; exact hP, va_K.moved hW.alike hK, hD.weaken (fun _ _ _ _ => trivial), hsz9.go hS hW hU hFc⟩⟩ rfl rfl hl.1 rfl (lv_room (Nat.le_of_ble_eq_true rfl)) dX4_readTest_103 ⟨Nat.le_of_ble_eq_true rfl, Nat.le_of_ble_eq_true rfl⟩) hS (fun q _ h => hFc q h) hFc (fun r_1954 u t H1 locs ht hvm w_1955 hB hz1 hk1 hS => ?_)
      subst w_1955
      obtain ⟨ws_1956, ty_1957, hm_1958, ht_1960, hP1, hK1, hD1, hx_1959⟩ := hB
      rw [ht] at hP1
      have hK := va_K.moved hvm.symm hK1
      have hD := hD1.weaken (fun _ _ _ h => hFc _ h)
      generalize H1 = H at hP1 hS ⊢
      have hP := hP1
      obtain ⟨g_1962, e_1961, h_1963⟩ := hm_1958.obj e_1945
      obtain ⟨z_1964, z_1965, z_1966, z_1967, z_1968, z_1969, rfl⟩ := smX4 h_1963
      obtain ⟨g_1971, e_1970, h_1972⟩ := hm_1958.obj e_1951
      obtain ⟨z_1973, z_1974, z_1975, z_1976, rfl⟩ := smX6 h_1972
      obtain ⟨f_1978, e_1977⟩ := hm_1958.arrI e_1946
      have u_1979 := ht_1960 _ _ u_1948
      have e_1980 := hm_1958.keep (by rw [wb_1851]; omega) e_1947
      have u_1981 := ht_1960 _ _ u_1949
      have hsm := hsm.tr (hm_1958.mono (by decide))
      have htx := htx.tr ht_1960
      obtain ⟨k_1982, p_1983, v_1984, hn_1985, ⟨rfl, hk_1986, hk_1987, vl_1988, hR_1989⟩ | ⟨rfl, hk_1986, hR_1989⟩⟩ := hx_1959
      · obtain ⟨kc_1990, cc_1991, tc_1992, fc_1993, kb_1994, cb_1995, tb_1996, fb_1997, hp_1998, hT_1999, er_2000, et_2001, wr_2002, wt_2003, ec_2004, uc_2005, wc_2006, hc_2007, eb_2008, ub_2009, wb_2010, hb_2011⟩ := id hR_1989
        have hp_19981 := hp_1998.1
        have hp_1998t := teF_le (f := f9) hp_1998.1
        refine lv_if_ne (tgt := 111) hx hb dX4_readTest_106 (by decide) (fun c_2012 => absurd (by decide) c_2012) (fun c_2012 => ?_)
        refine lv_iconst (v := 0) hx hb dX4_readTest_109 (by decide) ?_
        exact W.zret (v := 0) hx hb hr rfl (fun t ht hW => ⟨⟨0, 0, rfl, rfl, ws_1956, ty_1957, hsm, htx, by rw [ht]; exact hP, va_K.moved hW.alike hK, hD, ⟨k_1982, p_1983, 30 + v_1802, 9, v_1984, Or.inr ⟨p_1801, (Or.inr (Or.inr (Or.inr (⟨mn_37, v_1802, hn_1803, rfl⟩))) : whtR f9 tl ts 0 p_1801 (30 + v_1802)), Or.inr ⟨by omega, by omega, hn_1985⟩⟩, Or.inl ⟨rfl, hk_1986, by omega, _, _, (⟨kc_1990, cc_1991, tc_1992, fc_1993, kb_1994, cb_1995, tb_1996, fb_1997, hp_1998, hT_1999, er_2000, et_2001, wr_2002, wt_2003, ec_2004, uc_2005, wc_2006, hc_2007, eb_2008, ub_2009, wb_2010, hb_2011⟩ : RSX ρ ws_1956 ty_1957 f9 rd krd tp ktp cd bb tl (nxF f9 tl p_1801) T nk fr (nI k_1982) (nI p_1983) vl_1988)⟩⟩⟩, hS.F ht⟩) hS.2.2 dX4_readTest_110
      subst hk_1986
      obtain ⟨kc_2013, cc_2014, tc_2015, fc_2016, kb_2017, cb_2018, tb_2019, fb_2020, hp_2021, hT_2022, er_2023, et_2024, wr_2025, wt_2026, ec_2027, uc_2028, wc_2029, hc_2030, eb_2031, ub_2032, wb_2033, hb_2034⟩ := id hR_1989
      have hp_20211 := hp_2021.1
      have hp_2021t := teF_le (f := f9) hp_2021.1
      refine lv_if_ne (tgt := 111) hx hb dX4_readTest_106 (by decide) (fun c_2035 => ?_) (fun c_2035 => absurd c_2035 (by decide))
      have hg8 := tst_gain (Or.inr ⟨p_1801, (Or.inr (Or.inr (Or.inr (⟨mn_37, v_1802, hn_1803, rfl⟩))) : whtR f9 tl ts 0 p_1801 (30 + v_1802)), Or.inr ⟨by omega, by omega, hn_1985⟩⟩ : tstR f9 tl ts 0 p_1983 (30 + v_1802) 9 v_1984) hp_91
      refine lv_aload_n hx hb dX4_readTest_111 rfl (lv_at hl 2 rfl) ?_
      refine lv_iload_n hx hb dX4_readTest_112 rfl (lv_at hl 1 rfl) ?_
      refine lv_iload_n hx hb dX4_readTest_113 rfl (lv_at hl 0 rfl) ?_
      refine lv_aload_n hx hb dX4_readTest_114 rfl (lv_at hl 2 rfl) ?_
      refine va_get (D := D) (ci := 4) (v := .int (nI v_1984)) (C := RX4) (T := TX4) (N := 8) hx hb hts hin4 hown hK hP krd er_2023 rfl 7 (by decide) (hts (.fieldLink RX4 56 "HoneyHouse$RuleReader" "value" "I") (List.mem_of_getElem? (i := 2) rfl)) (fun _ h9 => h9) rfl dX4_readTest_115 ?_
      refine vp_callSi (W.runS (As := [.int (nI (30 + v_1802)), .int 0, .int (nI v_1984)]) (rest := [.ref rd]) ⟨hx, hb, hml, hown, hts⟩ (s_testCode0 l (30 + v_1802) v_1984) (va_cwS 3 hts gX4_readTest_X4_testCode rfl rfl rfl (by decide +kernel) ⟨Nat.le_of_ble_eq_true rfl, Nat.le_of_ble_eq_true rfl⟩) ⟨fun a U g mk q => q, fun U hU hW => ⟨rfl, trivial⟩⟩ rfl rfl hl.1 rfl (lv_room (Nat.le_of_ble_eq_true rfl)) dX4_readTest_118 ⟨Nat.le_of_ble_eq_true rfl, Nat.le_of_ble_eq_true rfl⟩) (fun r_2036 k_2037 => ?_)
      have hFc := free_all hD hS hA
      refine va_callv (va_runV (As := [.int r_2036]) (rest := []) ⟨hx, hb, hml, hown, hts⟩ (r_addCode l D ρ ws_1956 ty_1957 adK adV fo f9 rd krd tp ktp cd bb tl p_1983 T nk fr fk fp (nI v_1984) (13, 30 + v_1802, 9, v_1984) r_2036 H.size htl hng (⟨kc_2013, cc_2014, tc_2015, fc_2016, kb_2017, cb_2018, tb_2019, fb_2020, hp_2021, hT_2022, er_2023, et_2024, wr_2025, wt_2026, ec_2027, uc_2028, wc_2029, hc_2030, eb_2031, ub_2032, wb_2033, hb_2034⟩ : RSX ρ ws_1956 ty_1957 f9 rd krd tp ktp cd bb tl p_1983 T nk fr fk fp (nI v_1984)) k_2037) (cwV 1 hts gX4_readTest_X4_addCode rfl rfl rfl (by decide +kernel) ⟨Nat.le_of_ble_eq_true rfl, Nat.le_of_ble_eq_true rfl⟩) ⟨fun a U g mk q => by obtain ⟨q0, q1, qP, qK, qD, qS⟩ := q; exact ⟨q0, q1, qP, va_K.moved (u := U) (U := U.calling g mk a) (Vm.Alike.refl U.vm) qK, qD, SZ.same rfl rfl qS⟩, va_recv hK hP (ci := 4) (q0 := krd) rfl er_2023, fun U hU hW => ⟨rfl, by rw [hU], by rw [hU]; exact hP, va_K.moved hW.alike hK, hD.weaken (fun _ _ _ _ => trivial), hsz9.go hS hW hU hFc⟩⟩ rfl rfl hl.1 rfl (lv_room (Nat.le_of_ble_eq_true rfl)) dX4_readTest_121 ⟨Nat.le_of_ble_eq_true rfl, Nat.le_of_ble_eq_true rfl⟩) hS (fun q _ h => hFc q h) hFc (fun u t H1 locs ht hvm w_2039 hB hz1 hk1 hS => ?_)
      obtain ⟨ws_2040, ty_2041, hm_2042, ht_2044, hP1, hK1, hD1, hx_2043⟩ := hB
      rw [ht] at hP1
      have hK := va_K.moved hvm.symm hK1
      have hD := hD1.weaken (fun _ _ _ h => hFc _ h)
      generalize H1 = H at hP1 hS ⊢
      have hP := hP1
      obtain ⟨g_2046, e_2045, h_2047⟩ := hm_2042.obj er_2023
      obtain ⟨z_2048, z_2049, z_2050, z_2051, z_2052, z_2053, rfl⟩ := smX4 h_2047
      obtain ⟨g_2055, e_2054, h_2056⟩ := hm_2042.obj et_2024
      obtain ⟨z_2057, z_2058, z_2059, z_2060, rfl⟩ := smX6 h_2056
      obtain ⟨f_2062, e_2061⟩ := hm_2042.arrI ec_2027
      have u_2063 := ht_2044 _ _ uc_2028
      have e_2064 := hm_2042.keep (by rw [wb_2033]; omega) eb_2031
      have u_2065 := ht_2044 _ _ ub_2032
      have hsm := hsm.tr (hm_2042.mono (by decide))
      have htx := htx.tr ht_2044
      obtain ⟨hl_2066, hR_2067⟩ := hx_2043.resolve_right (fun h9 => h9.1 (by omega))
      obtain ⟨kc_2068, cc_2069, tc_2070, fc_2071, kb_2072, cb_2073, tb_2074, fb_2075, hp_2076, hT_2077, er_2078, et_2079, wr_2080, wt_2081, ec_2082, uc_2083, wc_2084, hc_2085, eb_2086, ub_2087, wb_2088, hb_2089⟩ := id hR_2067
      have hp_20761 := hp_2076.1
      have hp_2076t := teF_le (f := f9) hp_2076.1
      refine lv_iconst (v := 1) hx hb dX4_readTest_124 (by decide) ?_
      have ht9 : tstR f9 tl ts 0 p_1983 (30 + v_1802) 9 v_1984 := Or.inr ⟨p_1801, (Or.inr (Or.inr (Or.inr (⟨mn_37, v_1802, hn_1803, rfl⟩))) : whtR f9 tl ts 0 p_1801 (30 + v_1802)), Or.inr ⟨by omega, by omega, hn_1985⟩⟩
      have hg9 := tst_gain ht9 hp_91
      exact W.zret (v := 1) hx hb hr rfl (fun t ht hW => ⟨⟨1, 1, rfl, rfl, ws_2040, ty_2041, hsm, htx, by rw [ht]; exact hP, va_K.moved hW.alike hK, hD, ⟨0, p_1983, 30 + v_1802, 9, v_1984, ht9, Or.inr ⟨rfl, rfl, by omega, _, (⟨kc_2068, cc_2069, tc_2070, fc_2071, kb_2072, cb_2073, tb_2074, fb_2075, hp_2076, hT_2077, er_2078, et_2079, wr_2080, wt_2081, ec_2082, uc_2083, wc_2084, hc_2085, eb_2086, ub_2087, wb_2088, hb_2089⟩ : RSX ρ ws_2040 ty_2041 f9 rd krd tp ktp cd bb tl p_1983 (T ++ [(13, 30 + v_1802, 9, v_1984)]) nk fr fk fp (nI v_1984))⟩⟩⟩, hS.F ht⟩) hS.2.2 dX4_readTest_125
    have iw_1868 : wdE f9 tl p_1801 = 10 := iw_1868
    refine lv_istore_n (lv' := [(2, .int 1), (1, .int (nI (30 + v_1802))), (0, .ref rd)]) hx hb dX4_readTest_70 rfl hl (by decide) rfl (fun ls hl => ?_)
    refine lv_iload_n hx hb dX4_readTest_71 rfl (lv_at hl 0 rfl) ?_
    refine lv_if_ne (tgt := 92) hx hb dX4_readTest_72 (by decide) (fun c_2090 => ?_) (fun c_2090 => absurd c_2090 (by decide))
    refine lv_aload_n hx hb dX4_readTest_92 rfl (lv_at hl 2 rfl) ?_
    refine va_get (D := D) (ci := 4) (v := .ref tp) (C := RX4) (T := TX4) (N := 8) hx hb hts hin4 hown hK hP krd e_1861 rfl 0 (by decide) (hts (.fieldLink RX4 12 "HoneyHouse$RuleReader" "tape" "LHoneyHouse$Tape;") (List.mem_of_getElem? (i := 1) rfl)) (fun _ h9 => h9) rfl dX4_readTest_93 ?_
    have hFc := free_all hD hS hA
    refine va_callv (va_runV (As := []) (rest := []) ⟨hx, hb, hml, hown, hts⟩ (a_advance l D (rz [ktp]) ws_1856 ty_1857 f9 tp ktp tl (teF f9 tl p_1801) (nI (kdF f9 tl p_1801)) (nI p_1801) bb kb_1835 cb_1836 tb_1837 fb_1838 H.size htl hb_1852 hng (by omega) e_1862 e_1864 u_1866 (rz_o1 (pl_ne e_1864 e_1862 (by intro h9; simp at h9))) (rz_in (by simp))) (cwV 0 hts gX4_readTest_X6_advance rfl rfl rfl (by decide +kernel) ⟨Nat.le_of_ble_eq_true rfl, Nat.le_of_ble_eq_true rfl⟩) ⟨fun a U g mk q => by obtain ⟨q0, q1, qP, qK, qD⟩ := q; exact ⟨q0, q1, qP, va_K.moved (u := U) (U := U.calling g mk a) (Vm.Alike.refl U.vm) qK, qD⟩, va_recv hK hP (ci := 6) (q0 := ktp) rfl e_1862, fun U hU hW => ⟨rfl, by rw [hU], by rw [hU]; exact hP, va_K.moved hW.alike hK, hD.weaken (fun _ _ _ _ => trivial)⟩⟩ rfl rfl hl.1 rfl (lv_room (Nat.le_of_ble_eq_true rfl)) dX4_readTest_96 ⟨Nat.le_of_ble_eq_true rfl, Nat.le_of_ble_eq_true rfl⟩) hS (fun q _ h => hFc q h) hFc (fun u t H1 locs ht hvm w_2092 hB hz1 hk1 hS => ?_)
    obtain ⟨ws_2093, ty_2094, hm_2095, ht_2097, hP1, hK1, hD1, hx_2096⟩ := hB
    rw [ht] at hP1
    have hK := va_K.moved hvm.symm hK1
    have hD := hD1.weaken (fun _ _ _ h => hFc _ h)
    generalize H1 = H at hP1 hS ⊢
    have hP := hP1
    have e_2098 := hm_2095.keep (rz_o1 (pl_ne e_1861 e_1862 (by intro h9; simp at h9))) e_1861
    have e_2099 := hm_2095.keep (rz_o1 (pl_ne e_1863 e_1862 (by intro h9; simp at h9))) e_1863
    have e_2100 := hm_2095.keep (rz_o1 (pl_ne e_1864 e_1862 (by intro h9; simp at h9))) e_1864
    have u_2101 := ht_2097 _ _ u_1865
    have u_2102 := ht_2097 _ _ u_1866
    have hm_2103 : sm ρ [6] ws_1856 ws_2093 := hm_2095.up (fun k _ h => rz_u1 wt_1844 k h)
    have hsm := hsm.tr (hm_2103.mono (by decide))
    have htx := htx.tr ht_2097
    have e_2104 : ws_2093[ktp]? = some (tp, .inr (6, [.int (nI tl), .int (nI (kdF f9 tl (nxF f9 tl p_1801))), .int (nI (nxF f9 tl p_1801)), .int (nI (teF f9 tl (nxF f9 tl p_1801))), .ref bb])) := hx_2096; have hq_2105 : pcB f9 tl (nxF f9 tl p_1801) := nxF_pc (f := f9) hp_1839.1; have hq_21051 := hq_2105.1; have hq_2105t := teF_le (f := f9) hq_2105.1; have hg_2106 := nx_gain (f := f9) hp_1839.1
    refine lv_aload_n hx hb dX4_readTest_99 rfl (lv_at hl 2 rfl) ?_
    refine lv_sipush (v := 1000) hx hb dX4_readTest_100 (by decide) ?_
    have hFc := free_all hD hS hA
    refine va_calli (va_runV (As := [.int 1000]) (rest := []) ⟨hx, hb, hml, hown, hts⟩ (r_readNumber l D ρ ws_2093 ty_2094 adK adV fo f9 rd krd tp ktp cd bb tl (nxF f9 tl p_1801) T nk fr fk fp (nI v_1802) 1000 H.size htl hng (⟨kc_1831, cc_1832, tc_1833, fc_1834, kb_1835, cb_1836, tb_1837, fb_1838, hq_2105, hT_1840, e_2098, e_2104, wr_1843, wt_1844, e_2099, u_2101, wc_1847, hc_1848, e_2100, u_2102, wb_1851, hb_1852⟩ : RSX ρ ws_2093 ty_2094 f9 rd krd tp ktp cd bb tl (nxF f9 tl p_1801) T nk fr fk fp (nI v_1802)) (by omega)) (cwV 1 hts gX4_readTest_X4_readNumber rfl rfl rfl (by decide +kernel) ⟨Nat.le_of_ble_eq_true rfl, Nat.le_of_ble_eq_true rfl⟩) ⟨fun a U g mk q => by obtain ⟨q0, q1, qP, qK, qD, qS⟩ := q; exact ⟨q0, q1, qP, va_K.moved (u := U) (U := U.calling g mk a) (Vm.Alike.refl U.vm) qK, qD, SZ.same rfl rfl qS⟩, va_recv hK hP (ci := 4) (q0 := krd) rfl e_2098, fun U hU hW => ⟨rfl, by rw [hU], by rw [hU]; exact hP, va_K.moved hW.alike hK, hD.weaken (fun _ _ _ _ => trivial), hsz9.go hS hW hU hFc⟩⟩ rfl rfl hl.1 rfl (lv_room (Nat.le_of_ble_eq_true rfl)) dX4_readTest_103 ⟨Nat.le_of_ble_eq_true rfl, Nat.le_of_ble_eq_true rfl⟩) hS (fun q _ h => hFc q h) hFc (fun r_2107 u t H1 locs ht hvm w_2108 hB hz1 hk1 hS => ?_)
    subst w_2108
    obtain ⟨ws_2109, ty_2110, hm_2111, ht_2113, hP1, hK1, hD1, hx_2112⟩ := hB
    rw [ht] at hP1
    have hK := va_K.moved hvm.symm hK1
    have hD := hD1.weaken (fun _ _ _ h => hFc _ h)
    generalize H1 = H at hP1 hS ⊢
    have hP := hP1
    obtain ⟨g_2115, e_2114, h_2116⟩ := hm_2111.obj e_2098
    obtain ⟨z_2117, z_2118, z_2119, z_2120, z_2121, z_2122, rfl⟩ := smX4 h_2116
    obtain ⟨g_2124, e_2123, h_2125⟩ := hm_2111.obj e_2104
    obtain ⟨z_2126, z_2127, z_2128, z_2129, rfl⟩ := smX6 h_2125
    obtain ⟨f_2131, e_2130⟩ := hm_2111.arrI e_2099
    have u_2132 := ht_2113 _ _ u_2101
    have e_2133 := hm_2111.keep (by rw [wb_1851]; omega) e_2100
    have u_2134 := ht_2113 _ _ u_2102
    have hsm := hsm.tr (hm_2111.mono (by decide))
    have htx := htx.tr ht_2113
    obtain ⟨k_2135, p_2136, v_2137, hn_2138, ⟨rfl, hk_2139, hk_2140, vl_2141, hR_2142⟩ | ⟨rfl, hk_2139, hR_2142⟩⟩ := hx_2112
    · obtain ⟨kc_2143, cc_2144, tc_2145, fc_2146, kb_2147, cb_2148, tb_2149, fb_2150, hp_2151, hT_2152, er_2153, et_2154, wr_2155, wt_2156, ec_2157, uc_2158, wc_2159, hc_2160, eb_2161, ub_2162, wb_2163, hb_2164⟩ := id hR_2142
      have hp_21511 := hp_2151.1
      have hp_2151t := teF_le (f := f9) hp_2151.1
      refine lv_if_ne (tgt := 111) hx hb dX4_readTest_106 (by decide) (fun c_2165 => absurd (by decide) c_2165) (fun c_2165 => ?_)
      refine lv_iconst (v := 0) hx hb dX4_readTest_109 (by decide) ?_
      exact W.zret (v := 0) hx hb hr rfl (fun t ht hW => ⟨⟨0, 0, rfl, rfl, ws_2109, ty_2110, hsm, htx, by rw [ht]; exact hP, va_K.moved hW.alike hK, hD, ⟨k_2135, p_2136, 30 + v_1802, 10, v_2137, Or.inr ⟨p_1801, (Or.inr (Or.inr (Or.inr (⟨mn_37, v_1802, hn_1803, rfl⟩))) : whtR f9 tl ts 0 p_1801 (30 + v_1802)), Or.inr ⟨by omega, by omega, hn_2138⟩⟩, Or.inl ⟨rfl, hk_2139, by omega, _, _, (⟨kc_2143, cc_2144, tc_2145, fc_2146, kb_2147, cb_2148, tb_2149, fb_2150, hp_2151, hT_2152, er_2153, et_2154, wr_2155, wt_2156, ec_2157, uc_2158, wc_2159, hc_2160, eb_2161, ub_2162, wb_2163, hb_2164⟩ : RSX ρ ws_2109 ty_2110 f9 rd krd tp ktp cd bb tl (nxF f9 tl p_1801) T nk fr (nI k_2135) (nI p_2136) vl_2141)⟩⟩⟩, hS.F ht⟩) hS.2.2 dX4_readTest_110
    subst hk_2139
    obtain ⟨kc_2166, cc_2167, tc_2168, fc_2169, kb_2170, cb_2171, tb_2172, fb_2173, hp_2174, hT_2175, er_2176, et_2177, wr_2178, wt_2179, ec_2180, uc_2181, wc_2182, hc_2183, eb_2184, ub_2185, wb_2186, hb_2187⟩ := id hR_2142
    have hp_21741 := hp_2174.1
    have hp_2174t := teF_le (f := f9) hp_2174.1
    refine lv_if_ne (tgt := 111) hx hb dX4_readTest_106 (by decide) (fun c_2188 => ?_) (fun c_2188 => absurd c_2188 (by decide))
    have hg8 := tst_gain (Or.inr ⟨p_1801, (Or.inr (Or.inr (Or.inr (⟨mn_37, v_1802, hn_1803, rfl⟩))) : whtR f9 tl ts 0 p_1801 (30 + v_1802)), Or.inr ⟨by omega, by omega, hn_2138⟩⟩ : tstR f9 tl ts 0 p_2136 (30 + v_1802) 10 v_2137) hp_91
    refine lv_aload_n hx hb dX4_readTest_111 rfl (lv_at hl 2 rfl) ?_
    refine lv_iload_n hx hb dX4_readTest_112 rfl (lv_at hl 1 rfl) ?_
    refine lv_iload_n hx hb dX4_readTest_113 rfl (lv_at hl 0 rfl) ?_
    refine lv_aload_n hx hb dX4_readTest_114 rfl (lv_at hl 2 rfl) ?_
    refine va_get (D := D) (ci := 4) (v := .int (nI v_2137)) (C := RX4) (T := TX4) (N := 8) hx hb hts hin4 hown hK hP krd er_2176 rfl 7 (by decide) (hts (.fieldLink RX4 56 "HoneyHouse$RuleReader" "value" "I") (List.mem_of_getElem? (i := 2) rfl)) (fun _ h9 => h9) rfl dX4_readTest_115 ?_
    refine vp_callSi (W.runS (As := [.int (nI (30 + v_1802)), .int 1, .int (nI v_2137)]) (rest := [.ref rd]) ⟨hx, hb, hml, hown, hts⟩ (s_testCode1 l (30 + v_1802) v_2137) (va_cwS 3 hts gX4_readTest_X4_testCode rfl rfl rfl (by decide +kernel) ⟨Nat.le_of_ble_eq_true rfl, Nat.le_of_ble_eq_true rfl⟩) ⟨fun a U g mk q => q, fun U hU hW => ⟨rfl, trivial⟩⟩ rfl rfl hl.1 rfl (lv_room (Nat.le_of_ble_eq_true rfl)) dX4_readTest_118 ⟨Nat.le_of_ble_eq_true rfl, Nat.le_of_ble_eq_true rfl⟩) (fun r_2189 k_2190 => ?_)
    have hFc := free_all hD hS hA
    refine va_callv (va_runV (As := [.int r_2189]) (rest := []) ⟨hx, hb, hml, hown, hts⟩ (r_addCode l D ρ ws_2109 ty_2110 adK adV fo f9 rd krd tp ktp cd bb tl p_2136 T nk fr fk fp (nI v_2137) (13, 30 + v_1802, 10, v_2137) r_2189 H.size htl hng (⟨kc_2166, cc_2167, tc_2168, fc_2169, kb_2170, cb_2171, tb_2172, fb_2173, hp_2174, hT_2175, er_2176, et_2177, wr_2178, wt_2179, ec_2180, uc_2181, wc_2182, hc_2183, eb_2184, ub_2185, wb_2186, hb_2187⟩ : RSX ρ ws_2109 ty_2110 f9 rd krd tp ktp cd bb tl p_2136 T nk fr fk fp (nI v_2137)) k_2190) (cwV 1 hts gX4_readTest_X4_addCode rfl rfl rfl (by decide +kernel) ⟨Nat.le_of_ble_eq_true rfl, Nat.le_of_ble_eq_true rfl⟩) ⟨fun a U g mk q => by obtain ⟨q0, q1, qP, qK, qD, qS⟩ := q; exact ⟨q0, q1, qP, va_K.moved (u := U) (U := U.calling g mk a) (Vm.Alike.refl U.vm) qK, qD, SZ.same rfl rfl qS⟩, va_recv hK hP (ci := 4) (q0 := krd) rfl er_2176, fun U hU hW => ⟨rfl, by rw [hU], by rw [hU]; exact hP, va_K.moved hW.alike hK, hD.weaken (fun _ _ _ _ => trivial), hsz9.go hS hW hU hFc⟩⟩ rfl rfl hl.1 rfl (lv_room (Nat.le_of_ble_eq_true rfl)) dX4_readTest_121 ⟨Nat.le_of_ble_eq_true rfl, Nat.le_of_ble_eq_true rfl⟩) hS (fun q _ h => hFc q h) hFc (fun u t H1 locs ht hvm w_2192 hB hz1 hk1 hS => ?_)
    obtain ⟨ws_2193, ty_2194, hm_2195, ht_2197, hP1, hK1, hD1, hx_2196⟩ := hB
    rw [ht] at hP1
    have hK := va_K.moved hvm.symm hK1
    have hD := hD1.weaken (fun _ _ _ h => hFc _ h)
    generalize H1 = H at hP1 hS ⊢
    have hP := hP1
    obtain ⟨g_2199, e_2198, h_2200⟩ := hm_2195.obj er_2176
    obtain ⟨z_2201, z_2202, z_2203, z_2204, z_2205, z_2206, rfl⟩ := smX4 h_2200
    obtain ⟨g_2208, e_2207, h_2209⟩ := hm_2195.obj et_2177
    obtain ⟨z_2210, z_2211, z_2212, z_2213, rfl⟩ := smX6 h_2209
    obtain ⟨f_2215, e_2214⟩ := hm_2195.arrI ec_2180
    have u_2216 := ht_2197 _ _ uc_2181
    have e_2217 := hm_2195.keep (by rw [wb_2186]; omega) eb_2184
    have u_2218 := ht_2197 _ _ ub_2185
    have hsm := hsm.tr (hm_2195.mono (by decide))
    have htx := htx.tr ht_2197
    obtain ⟨hl_2219, hR_2220⟩ := hx_2196.resolve_right (fun h9 => h9.1 (by omega))
    obtain ⟨kc_2221, cc_2222, tc_2223, fc_2224, kb_2225, cb_2226, tb_2227, fb_2228, hp_2229, hT_2230, er_2231, et_2232, wr_2233, wt_2234, ec_2235, uc_2236, wc_2237, hc_2238, eb_2239, ub_2240, wb_2241, hb_2242⟩ := id hR_2220
    have hp_22291 := hp_2229.1
    have hp_2229t := teF_le (f := f9) hp_2229.1
    refine lv_iconst (v := 1) hx hb dX4_readTest_124 (by decide) ?_
    have ht9 : tstR f9 tl ts 0 p_2136 (30 + v_1802) 10 v_2137 := Or.inr ⟨p_1801, (Or.inr (Or.inr (Or.inr (⟨mn_37, v_1802, hn_1803, rfl⟩))) : whtR f9 tl ts 0 p_1801 (30 + v_1802)), Or.inr ⟨by omega, by omega, hn_2138⟩⟩
    have hg9 := tst_gain ht9 hp_91
    exact W.zret (v := 1) hx hb hr rfl (fun t ht hW => ⟨⟨1, 1, rfl, rfl, ws_2193, ty_2194, hsm, htx, by rw [ht]; exact hP, va_K.moved hW.alike hK, hD, ⟨0, p_2136, 30 + v_1802, 10, v_2137, ht9, Or.inr ⟨rfl, rfl, by omega, _, (⟨kc_2221, cc_2222, tc_2223, fc_2224, kb_2225, cb_2226, tb_2227, fb_2228, hp_2229, hT_2230, er_2231, et_2232, wr_2233, wt_2234, ec_2235, uc_2236, wc_2237, hc_2238, eb_2239, ub_2240, wb_2241, hb_2242⟩ : RSX ρ ws_2193 ty_2194 f9 rd krd tp ktp cd bb tl p_2136 (T ++ [(13, 30 + v_1802, 10, v_2137)]) nk fr fk fp (nI v_2137))⟩⟩⟩, hS.F ht⟩) hS.2.2 dX4_readTest_125
  refine lv_istore_n (lv' := [(1, .int (-1)), (0, .ref rd)]) hx hb dX4_readTest_4 rfl hl (by decide) rfl (fun ls hl => ?_)
  refine lv_iload_n hx hb dX4_readTest_5 rfl (lv_at hl 0 rfl) ?_
  refine lv_iconst (v := (-1)) hx hb dX4_readTest_6 (by decide) ?_
  refine lv_icmp_ne (tgt := 15) hx hb dX4_readTest_7 (by decide) (fun c_2243 => absurd (by decide) c_2243) (fun c_2243 => ?_)
  refine lv_aload_n hx hb dX4_readTest_10 rfl (lv_at hl 1 rfl) ?_
  have hFc := free_all hD hS hA
  refine va_calli (va_runV (As := []) (rest := []) ⟨hx, hb, hml, hown, hts⟩ (r_failHere l D ρ ws_25 ty_26 adK adV fo f9 rd krd tp ktp cd bb tl ts T nk fr fk fp vl  H.size htl hng (⟨kc_1, cc_2, tc_3, fc_4, kb_5, cb_6, tb_7, fb_8, hp_9, hT_10, e_30, e_31, wr_13, wt_14, e_32, u_34, wc_17, hc_18, e_33, u_35, wb_21, hb_22⟩ : RSX ρ ws_25 ty_26 f9 rd krd tp ktp cd bb tl ts T nk fr fk fp vl) ) (cwV 0 hts gX4_readTest_X4_failHere rfl rfl rfl (by decide +kernel) ⟨Nat.le_of_ble_eq_true rfl, Nat.le_of_ble_eq_true rfl⟩) ⟨fun a U g mk q => by obtain ⟨q0, q1, qP, qK, qD, qS⟩ := q; exact ⟨q0, q1, qP, va_K.moved (u := U) (U := U.calling g mk a) (Vm.Alike.refl U.vm) qK, qD, SZ.same rfl rfl qS⟩, va_recv hK hP (ci := 4) (q0 := krd) rfl e_30, fun U hU hW => ⟨rfl, by rw [hU], by rw [hU]; exact hP, va_K.moved hW.alike hK, hD.weaken (fun _ _ _ _ => trivial), hsz9.go hS hW hU hFc⟩⟩ rfl rfl hl.1 rfl (lv_room (Nat.le_of_ble_eq_true rfl)) dX4_readTest_11 ⟨Nat.le_of_ble_eq_true rfl, Nat.le_of_ble_eq_true rfl⟩) hS (fun q _ h => hFc q h) hFc (fun r_2244 u t H1 locs ht hvm w_2245 hB hz1 hk1 hS => ?_)
  subst w_2245
  obtain ⟨ws_2246, ty_2247, hm_2248, ht_2250, hP1, hK1, hD1, hx_2249⟩ := hB
  rw [ht] at hP1
  have hK := va_K.moved hvm.symm hK1
  have hD := hD1.weaken (fun _ _ _ h => hFc _ h)
  generalize H1 = H at hP1 hS ⊢
  have hP := hP1
  obtain ⟨g_2252, e_2251, h_2253⟩ := hm_2248.obj e_30
  obtain ⟨z_2254, z_2255, z_2256, z_2257, z_2258, z_2259, rfl⟩ := smX4 h_2253
  obtain ⟨g_2261, e_2260, h_2262⟩ := hm_2248.obj e_31
  obtain ⟨z_2263, z_2264, z_2265, z_2266, rfl⟩ := smX6 h_2262
  obtain ⟨f_2268, e_2267⟩ := hm_2248.arrI e_32
  have u_2269 := ht_2250 _ _ u_34
  have e_2270 := hm_2248.keep (by rw [wb_21]; omega) e_33
  have u_2271 := ht_2250 _ _ u_35
  have hsm := hsm.tr (hm_2248.mono (by decide))
  have htx := htx.tr ht_2250
  obtain ⟨rfl, hR_2272⟩ := hx_2249
  obtain ⟨kc_2273, cc_2274, tc_2275, fc_2276, kb_2277, cb_2278, tb_2279, fb_2280, hp_2281, hT_2282, er_2283, et_2284, wr_2285, wt_2286, ec_2287, uc_2288, wc_2289, hc_2290, eb_2291, ub_2292, wb_2293, hb_2294⟩ := id hR_2272
  have hp_22811 := hp_2281.1
  have hp_2281t := teF_le (f := f9) hp_2281.1
  exact W.zret (v := 0) hx hb hr rfl (fun t ht hW => ⟨⟨0, 0, rfl, rfl, ws_2246, ty_2247, hsm, htx, by rw [ht]; exact hP, va_K.moved hW.alike hK, hD, ⟨1, ts, 0, 0, 0, Or.inl ⟨0, Or.inl ⟨mn_37, rfl, rfl⟩, by omega⟩, Or.inl ⟨rfl, by omega, by omega, _, _, (⟨kc_2273, cc_2274, tc_2275, fc_2276, kb_2277, cb_2278, tb_2279, fb_2280, hp_2281, hT_2282, er_2283, et_2284, wr_2285, wt_2286, ec_2287, uc_2288, wc_2289, hc_2290, eb_2291, ub_2292, wb_2293, hb_2294⟩ : RSX ρ ws_2246 ty_2247 f9 rd krd tp ktp cd bb tl ts T nk fr 1 (nI ts) vl)⟩⟩⟩, hS.F ht⟩) hS.2.2 dX4_readTest_14
