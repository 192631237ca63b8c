theorem dX6_byteAt_0 : decode cX6_byteAt 0 = .ok (.iload_n 1, 1) := by decide +kernel
theorem dX6_byteAt_1 : decode cX6_byteAt 1 = .ok (.ifCond .lt 29, 3) := by decide +kernel
theorem dX6_byteAt_4 : decode cX6_byteAt 4 = .ok (.iload_n 1, 1) := by decide +kernel
theorem dX6_byteAt_5 : decode cX6_byteAt 5 = .ok (.aload_n 0, 1) := by decide +kernel
theorem dX6_byteAt_6 : decode cX6_byteAt 6 = .ok (.getfield 15, 3) := by decide +kernel
theorem dX6_byteAt_9 : decode cX6_byteAt 9 = .ok (.if_icmp .ge 21, 3) := by decide +kernel
theorem dX6_byteAt_12 : decode cX6_byteAt 12 = .ok (.iload_n 1, 1) := by decide +kernel
theorem dX6_byteAt_13 : decode cX6_byteAt 13 = .ok (.aload_n 0, 1) := by decide +kernel
theorem dX6_byteAt_14 : decode cX6_byteAt 14 = .ok (.getfield 9, 3) := by decide +kernel
theorem dX6_byteAt_17 : decode cX6_byteAt 17 = .ok (.arraylength, 1) := by decide +kernel
theorem dX6_byteAt_18 : decode cX6_byteAt 18 = .ok (.if_icmp .ge 12, 3) := by decide +kernel
theorem dX6_byteAt_21 : decode cX6_byteAt 21 = .ok (.aload_n 0, 1) := by decide +kernel
theorem dX6_byteAt_22 : decode cX6_byteAt 22 = .ok (.getfield 9, 3) := by decide +kernel
theorem dX6_byteAt_25 : decode cX6_byteAt 25 = .ok (.iload_n 1, 1) := by decide +kernel
theorem dX6_byteAt_26 : decode cX6_byteAt 26 = .ok (.iaload, 1) := by decide +kernel
theorem dX6_byteAt_27 : decode cX6_byteAt 27 = .ok (.goto 4, 3) := by decide +kernel
theorem dX6_byteAt_30 : decode cX6_byteAt 30 = .ok (.iconst (-1), 1) := by decide +kernel
theorem dX6_byteAt_31 : decode cX6_byteAt 31 = .ok (.ireturn, 1) := by decide +kernel
theorem dX6_kindOf_0 : decode cX6_kindOf 0 = .ok (.iload_n 0, 1) := by decide +kernel
theorem dX6_kindOf_1 : decode cX6_kindOf 1 = .ok (.bipush 97, 2) := by decide +kernel
theorem dX6_kindOf_3 : decode cX6_kindOf 3 = .ok (.if_icmp .lt 11, 3) := by decide +kernel
theorem dX6_kindOf_6 : decode cX6_kindOf 6 = .ok (.iload_n 0, 1) := by decide +kernel
theorem dX6_kindOf_7 : decode cX6_kindOf 7 = .ok (.bipush 122, 2) := by decide +kernel
theorem dX6_kindOf_9 : decode cX6_kindOf 9 = .ok (.if_icmp .gt 5, 3) := by decide +kernel
theorem dX6_kindOf_12 : decode cX6_kindOf 12 = .ok (.iconst 1, 1) := by decide +kernel
theorem dX6_kindOf_13 : decode cX6_kindOf 13 = .ok (.ireturn, 1) := by decide +kernel
theorem dX6_kindOf_14 : decode cX6_kindOf 14 = .ok (.iload_n 0, 1) := by decide +kernel
theorem dX6_kindOf_15 : decode cX6_kindOf 15 = .ok (.bipush 48, 2) := by decide +kernel
theorem dX6_kindOf_17 : decode cX6_kindOf 17 = .ok (.if_icmp .lt 11, 3) := by decide +kernel
theorem dX6_kindOf_20 : decode cX6_kindOf 20 = .ok (.iload_n 0, 1) := by decide +kernel
theorem dX6_kindOf_21 : decode cX6_kindOf 21 = .ok (.bipush 57, 2) := by decide +kernel
theorem dX6_kindOf_23 : decode cX6_kindOf 23 = .ok (.if_icmp .gt 5, 3) := by decide +kernel
theorem dX6_kindOf_26 : decode cX6_kindOf 26 = .ok (.iconst 2, 1) := by decide +kernel
theorem dX6_kindOf_27 : decode cX6_kindOf 27 = .ok (.ireturn, 1) := by decide +kernel
theorem dX6_kindOf_28 : decode cX6_kindOf 28 = .ok (.iload_n 0, 1) := by decide +kernel
theorem dX6_kindOf_29 : decode cX6_kindOf 29 = .ok (.bipush 10, 2) := by decide +kernel
theorem dX6_kindOf_31 : decode cX6_kindOf 31 = .ok (.if_icmp .eq 9, 3) := by decide +kernel
theorem dX6_kindOf_34 : decode cX6_kindOf 34 = .ok (.iload_n 0, 1) := by decide +kernel
theorem dX6_kindOf_35 : decode cX6_kindOf 35 = .ok (.bipush 32, 2) := by decide +kernel
theorem dX6_kindOf_37 : decode cX6_kindOf 37 = .ok (.if_icmp .ne 5, 3) := by decide +kernel
theorem dX6_kindOf_40 : decode cX6_kindOf 40 = .ok (.iconst 3, 1) := by decide +kernel
theorem dX6_kindOf_41 : decode cX6_kindOf 41 = .ok (.ireturn, 1) := by decide +kernel
theorem dX6_kindOf_42 : decode cX6_kindOf 42 = .ok (.iload_n 0, 1) := by decide +kernel
theorem dX6_kindOf_43 : decode cX6_kindOf 43 = .ok (.iconst (-1), 1) := by decide +kernel
theorem dX6_kindOf_44 : decode cX6_kindOf 44 = .ok (.if_icmp .ne 7, 3) := by decide +kernel
theorem dX6_kindOf_47 : decode cX6_kindOf 47 = .ok (.iconst 0, 1) := by decide +kernel
theorem dX6_kindOf_48 : decode cX6_kindOf 48 = .ok (.goto 4, 3) := by decide +kernel
theorem dX6_kindOf_51 : decode cX6_kindOf 51 = .ok (.iconst 4, 1) := by decide +kernel
theorem dX6_kindOf_52 : decode cX6_kindOf 52 = .ok (.ireturn, 1) := by decide +kernel
theorem dX6_advance_0 : decode cX6_advance 0 = .ok (.aload_n 0, 1) := by decide +kernel
theorem dX6_advance_1 : decode cX6_advance 1 = .ok (.getfield 19, 3) := by decide +kernel
theorem dX6_advance_4 : decode cX6_advance 4 = .ok (.istore_n 1, 1) := by decide +kernel
theorem dX6_advance_5 : decode cX6_advance 5 = .ok (.iload_n 1, 1) := by decide +kernel
theorem dX6_advance_6 : decode cX6_advance 6 = .ok (.aload_n 0, 1) := by decide +kernel
theorem dX6_advance_7 : decode cX6_advance 7 = .ok (.getfield 15, 3) := by decide +kernel
theorem dX6_advance_10 : decode cX6_advance 10 = .ok (.if_icmp .ge 21, 3) := by decide +kernel
theorem dX6_advance_13 : decode cX6_advance 13 = .ok (.aload_n 0, 1) := by decide +kernel
theorem dX6_advance_14 : decode cX6_advance 14 = .ok (.iload_n 1, 1) := by decide +kernel
theorem dX6_advance_15 : decode cX6_advance 15 = .ok (.invokevirtual 25, 3) := by decide +kernel
theorem dX6_advance_18 : decode cX6_advance 18 = .ok (.invokestatic 29, 3) := by decide +kernel
theorem dX6_advance_21 : decode cX6_advance 21 = .ok (.iconst 3, 1) := by decide +kernel
theorem dX6_advance_22 : decode cX6_advance 22 = .ok (.if_icmp .ne 9, 3) := by decide +kernel
theorem dX6_advance_25 : decode cX6_advance 25 = .ok (.iinc 1 1, 3) := by decide +kernel
theorem dX6_advance_28 : decode cX6_advance 28 = .ok (.goto (-23), 3) := by decide +kernel
theorem dX6_advance_31 : decode cX6_advance 31 = .ok (.aload_n 0, 1) := by decide +kernel
theorem dX6_advance_32 : decode cX6_advance 32 = .ok (.iload_n 1, 1) := by decide +kernel
theorem dX6_advance_33 : decode cX6_advance 33 = .ok (.putfield 32, 3) := by decide +kernel
theorem dX6_advance_36 : decode cX6_advance 36 = .ok (.aload_n 0, 1) := by decide +kernel
theorem dX6_advance_37 : decode cX6_advance 37 = .ok (.aload_n 0, 1) := by decide +kernel
theorem dX6_advance_38 : decode cX6_advance 38 = .ok (.iload_n 1, 1) := by decide +kernel
theorem dX6_advance_39 : decode cX6_advance 39 = .ok (.invokevirtual 25, 3) := by decide +kernel
theorem dX6_advance_42 : decode cX6_advance 42 = .ok (.invokestatic 29, 3) := by decide +kernel
theorem dX6_advance_45 : decode cX6_advance 45 = .ok (.putfield 35, 3) := by decide +kernel
theorem dX6_advance_48 : decode cX6_advance 48 = .ok (.aload_n 0, 1) := by decide +kernel
theorem dX6_advance_49 : decode cX6_advance 49 = .ok (.aload_n 0, 1) := by decide +kernel
theorem dX6_advance_50 : decode cX6_advance 50 = .ok (.getfield 35, 3) := by decide +kernel
theorem dX6_advance_53 : decode cX6_advance 53 = .ok (.ifCond .ne 7, 3) := by decide +kernel
theorem dX6_advance_56 : decode cX6_advance 56 = .ok (.iload_n 1, 1) := by decide +kernel
theorem dX6_advance_57 : decode cX6_advance 57 = .ok (.goto 6, 3) := by decide +kernel
theorem dX6_advance_60 : decode cX6_advance 60 = .ok (.iload_n 1, 1) := by decide +kernel
theorem dX6_advance_61 : decode cX6_advance 61 = .ok (.iconst 1, 1) := by decide +kernel
theorem dX6_advance_62 : decode cX6_advance 62 = .ok (.iadd, 1) := by decide +kernel
theorem dX6_advance_63 : decode cX6_advance 63 = .ok (.putfield 19, 3) := by decide +kernel
theorem dX6_advance_66 : decode cX6_advance 66 = .ok (.aload_n 0, 1) := by decide +kernel
theorem dX6_advance_67 : decode cX6_advance 67 = .ok (.getfield 35, 3) := by decide +kernel
theorem dX6_advance_70 : decode cX6_advance 70 = .ok (.iconst 1, 1) := by decide +kernel
theorem dX6_advance_71 : decode cX6_advance 71 = .ok (.if_icmp .eq 11, 3) := by decide +kernel
theorem dX6_advance_74 : decode cX6_advance 74 = .ok (.aload_n 0, 1) := by decide +kernel
theorem dX6_advance_75 : decode cX6_advance 75 = .ok (.getfield 35, 3) := by decide +kernel
theorem dX6_advance_78 : decode cX6_advance 78 = .ok (.iconst 2, 1) := by decide +kernel
theorem dX6_advance_79 : decode cX6_advance 79 = .ok (.if_icmp .ne 7, 3) := by decide +kernel
theorem dX6_advance_82 : decode cX6_advance 82 = .ok (.iconst 1, 1) := by decide +kernel
theorem dX6_advance_83 : decode cX6_advance 83 = .ok (.goto 4, 3) := by decide +kernel
theorem dX6_advance_86 : decode cX6_advance 86 = .ok (.iconst 0, 1) := by decide +kernel
theorem dX6_advance_87 : decode cX6_advance 87 = .ok (.istore_n 2, 1) := by decide +kernel
theorem dX6_advance_88 : decode cX6_advance 88 = .ok (.iload_n 2, 1) := by decide +kernel
theorem dX6_advance_89 : decode cX6_advance 89 = .ok (.ifCond .eq 45, 3) := by decide +kernel
theorem dX6_advance_92 : decode cX6_advance 92 = .ok (.aload_n 0, 1) := by decide +kernel
theorem dX6_advance_93 : decode cX6_advance 93 = .ok (.getfield 19, 3) := by decide +kernel
theorem dX6_advance_96 : decode cX6_advance 96 = .ok (.aload_n 0, 1) := by decide +kernel
theorem dX6_advance_97 : decode cX6_advance 97 = .ok (.getfield 15, 3) := by decide +kernel
theorem dX6_advance_100 : decode cX6_advance 100 = .ok (.if_icmp .ge 34, 3) := by decide +kernel
theorem dX6_advance_103 : decode cX6_advance 103 = .ok (.aload_n 0, 1) := by decide +kernel
theorem dX6_advance_104 : decode cX6_advance 104 = .ok (.aload_n 0, 1) := by decide +kernel
theorem dX6_advance_105 : decode cX6_advance 105 = .ok (.getfield 19, 3) := by decide +kernel
theorem dX6_advance_108 : decode cX6_advance 108 = .ok (.invokevirtual 25, 3) := by decide +kernel
theorem dX6_advance_111 : decode cX6_advance 111 = .ok (.invokestatic 29, 3) := by decide +kernel
theorem dX6_advance_114 : decode cX6_advance 114 = .ok (.aload_n 0, 1) := by decide +kernel
theorem dX6_advance_115 : decode cX6_advance 115 = .ok (.getfield 35, 3) := by decide +kernel
theorem dX6_advance_118 : decode cX6_advance 118 = .ok (.if_icmp .ne 16, 3) := by decide +kernel
theorem dX6_advance_121 : decode cX6_advance 121 = .ok (.aload_n 0, 1) := by decide +kernel
theorem dX6_advance_122 : decode cX6_advance 122 = .ok (.dup, 1) := by decide +kernel
theorem dX6_advance_123 : decode cX6_advance 123 = .ok (.getfield 19, 3) := by decide +kernel
theorem dX6_advance_126 : decode cX6_advance 126 = .ok (.iconst 1, 1) := by decide +kernel
theorem dX6_advance_127 : decode cX6_advance 127 = .ok (.iadd, 1) := by decide +kernel
theorem dX6_advance_128 : decode cX6_advance 128 = .ok (.putfield 19, 3) := by decide +kernel
theorem dX6_advance_131 : decode cX6_advance 131 = .ok (.goto (-43), 3) := by decide +kernel
theorem dX6_advance_134 : decode cX6_advance 134 = .ok (.return_, 1) := by decide +kernel
theorem dX6_rewind_0 : decode cX6_rewind 0 = .ok (.aload_n 0, 1) := by decide +kernel
theorem dX6_rewind_1 : decode cX6_rewind 1 = .ok (.iconst 0, 1) := by decide +kernel
theorem dX6_rewind_2 : decode cX6_rewind 2 = .ok (.putfield 19, 3) := by decide +kernel
theorem dX6_rewind_5 : decode cX6_rewind 5 = .ok (.aload_n 0, 1) := by decide +kernel
theorem dX6_rewind_6 : decode cX6_rewind 6 = .ok (.invokevirtual 22, 3) := by decide +kernel
theorem dX6_rewind_9 : decode cX6_rewind 9 = .ok (.return_, 1) := by decide +kernel
theorem dX6_isByte_0 : decode cX6_isByte 0 = .ok (.aload_n 0, 1) := by decide +kernel
theorem dX6_isByte_1 : decode cX6_isByte 1 = .ok (.getfield 35, 3) := by decide +kernel
theorem dX6_isByte_4 : decode cX6_isByte 4 = .ok (.iconst 4, 1) := by decide +kernel
theorem dX6_isByte_5 : decode cX6_isByte 5 = .ok (.if_icmp .ne 19, 3) := by decide +kernel
theorem dX6_isByte_8 : decode cX6_isByte 8 = .ok (.aload_n 0, 1) := by decide +kernel
theorem dX6_isByte_9 : decode cX6_isByte 9 = .ok (.aload_n 0, 1) := by decide +kernel
theorem dX6_isByte_10 : decode cX6_isByte 10 = .ok (.getfield 32, 3) := by decide +kernel
theorem dX6_isByte_13 : decode cX6_isByte 13 = .ok (.invokevirtual 25, 3) := by decide +kernel
theorem dX6_isByte_16 : decode cX6_isByte 16 = .ok (.iload_n 1, 1) := by decide +kernel
theorem dX6_isByte_17 : decode cX6_isByte 17 = .ok (.if_icmp .ne 7, 3) := by decide +kernel
theorem dX6_isByte_20 : decode cX6_isByte 20 = .ok (.iconst 1, 1) := by decide +kernel
theorem dX6_isByte_21 : decode cX6_isByte 21 = .ok (.goto 4, 3) := by decide +kernel
theorem dX6_isByte_24 : decode cX6_isByte 24 = .ok (.iconst 0, 1) := by decide +kernel
theorem dX6_isByte_25 : decode cX6_isByte 25 = .ok (.ireturn, 1) := by decide +kernel
theorem dX6_isWord_0 : decode cX6_isWord 0 = .ok (.aload_n 0, 1) := by decide +kernel
theorem dX6_isWord_1 : decode cX6_isWord 1 = .ok (.getfield 35, 3) := by decide +kernel
theorem dX6_isWord_4 : decode cX6_isWord 4 = .ok (.iconst 1, 1) := by decide +kernel
theorem dX6_isWord_5 : decode cX6_isWord 5 = .ok (.if_icmp .ne 19, 3) := by decide +kernel
theorem dX6_isWord_8 : decode cX6_isWord 8 = .ok (.aload_n 0, 1) := by decide +kernel
theorem dX6_isWord_9 : decode cX6_isWord 9 = .ok (.getfield 19, 3) := by decide +kernel
theorem dX6_isWord_12 : decode cX6_isWord 12 = .ok (.aload_n 0, 1) := by decide +kernel
theorem dX6_isWord_13 : decode cX6_isWord 13 = .ok (.getfield 32, 3) := by decide +kernel
theorem dX6_isWord_16 : decode cX6_isWord 16 = .ok (.isub, 1) := by decide +kernel
theorem dX6_isWord_17 : decode cX6_isWord 17 = .ok (.aload_n 1, 1) := by decide +kernel
theorem dX6_isWord_18 : decode cX6_isWord 18 = .ok (.invokevirtual 38, 3) := by decide +kernel
theorem dX6_isWord_21 : decode cX6_isWord 21 = .ok (.if_icmp .eq 5, 3) := by decide +kernel
theorem dX6_isWord_24 : decode cX6_isWord 24 = .ok (.iconst 0, 1) := by decide +kernel
theorem dX6_isWord_25 : decode cX6_isWord 25 = .ok (.ireturn, 1) := by decide +kernel
theorem dX6_isWord_26 : decode cX6_isWord 26 = .ok (.iconst 0, 1) := by decide +kernel
theorem dX6_isWord_27 : decode cX6_isWord 27 = .ok (.istore_n 2, 1) := by decide +kernel
theorem dX6_isWord_28 : decode cX6_isWord 28 = .ok (.iload_n 2, 1) := by decide +kernel
theorem dX6_isWord_29 : decode cX6_isWord 29 = .ok (.aload_n 1, 1) := by decide +kernel
theorem dX6_isWord_30 : decode cX6_isWord 30 = .ok (.invokevirtual 38, 3) := by decide +kernel
theorem dX6_isWord_33 : decode cX6_isWord 33 = .ok (.if_icmp .ge 29, 3) := by decide +kernel
theorem dX6_isWord_36 : decode cX6_isWord 36 = .ok (.aload_n 0, 1) := by decide +kernel
theorem dX6_isWord_37 : decode cX6_isWord 37 = .ok (.aload_n 0, 1) := by decide +kernel
theorem dX6_isWord_38 : decode cX6_isWord 38 = .ok (.getfield 32, 3) := by decide +kernel
theorem dX6_isWord_41 : decode cX6_isWord 41 = .ok (.iload_n 2, 1) := by decide +kernel
theorem dX6_isWord_42 : decode cX6_isWord 42 = .ok (.iadd, 1) := by decide +kernel
theorem dX6_isWord_43 : decode cX6_isWord 43 = .ok (.invokevirtual 25, 3) := by decide +kernel
theorem dX6_isWord_46 : decode cX6_isWord 46 = .ok (.aload_n 1, 1) := by decide +kernel
theorem dX6_isWord_47 : decode cX6_isWord 47 = .ok (.iload_n 2, 1) := by decide +kernel
theorem dX6_isWord_48 : decode cX6_isWord 48 = .ok (.invokevirtual 43, 3) := by decide +kernel
theorem dX6_isWord_51 : decode cX6_isWord 51 = .ok (.if_icmp .eq 5, 3) := by decide +kernel
theorem dX6_isWord_54 : decode cX6_isWord 54 = .ok (.iconst 0, 1) := by decide +kernel
theorem dX6_isWord_55 : decode cX6_isWord 55 = .ok (.ireturn, 1) := by decide +kernel
theorem dX6_isWord_56 : decode cX6_isWord 56 = .ok (.iinc 2 1, 3) := by decide +kernel
theorem dX6_isWord_59 : decode cX6_isWord 59 = .ok (.goto (-31), 3) := by decide +kernel
theorem dX6_isWord_62 : decode cX6_isWord 62 = .ok (.iconst 1, 1) := by decide +kernel
theorem dX6_isWord_63 : decode cX6_isWord 63 = .ok (.ireturn, 1) := by decide +kernel
theorem dX6_wordKey_0 : decode cX6_wordKey 0 = .ok (.lconst 0, 1) := by decide +kernel
theorem dX6_wordKey_1 : decode cX6_wordKey 1 = .ok (.lstore_n 1, 1) := by decide +kernel
theorem dX6_wordKey_2 : decode cX6_wordKey 2 = .ok (.aload_n 0, 1) := by decide +kernel
theorem dX6_wordKey_3 : decode cX6_wordKey 3 = .ok (.getfield 32, 3) := by decide +kernel
theorem dX6_wordKey_6 : decode cX6_wordKey 6 = .ok (.istore_n 3, 1) := by decide +kernel
theorem dX6_wordKey_7 : decode cX6_wordKey 7 = .ok (.iload_n 3, 1) := by decide +kernel
theorem dX6_wordKey_8 : decode cX6_wordKey 8 = .ok (.aload_n 0, 1) := by decide +kernel
theorem dX6_wordKey_9 : decode cX6_wordKey 9 = .ok (.getfield 19, 3) := by decide +kernel
theorem dX6_wordKey_12 : decode cX6_wordKey 12 = .ok (.if_icmp .ge 26, 3) := by decide +kernel
theorem dX6_wordKey_15 : decode cX6_wordKey 15 = .ok (.lload_n 1, 1) := by decide +kernel
theorem dX6_wordKey_16 : decode cX6_wordKey 16 = .ok (.iconst 5, 1) := by decide +kernel
theorem dX6_wordKey_17 : decode cX6_wordKey 17 = .ok (.lshl, 1) := by decide +kernel
theorem dX6_wordKey_18 : decode cX6_wordKey 18 = .ok (.aload_n 0, 1) := by decide +kernel
theorem dX6_wordKey_19 : decode cX6_wordKey 19 = .ok (.iload_n 3, 1) := by decide +kernel
theorem dX6_wordKey_20 : decode cX6_wordKey 20 = .ok (.invokevirtual 25, 3) := by decide +kernel
theorem dX6_wordKey_23 : decode cX6_wordKey 23 = .ok (.i2l, 1) := by decide +kernel
theorem dX6_wordKey_24 : decode cX6_wordKey 24 = .ok (.ladd, 1) := by decide +kernel
theorem dX6_wordKey_25 : decode cX6_wordKey 25 = .ok (.ldc2_w 47, 3) := by decide +kernel
theorem dX6_wordKey_28 : decode cX6_wordKey 28 = .ok (.lsub, 1) := by decide +kernel
theorem dX6_wordKey_29 : decode cX6_wordKey 29 = .ok (.lconst 1, 1) := by decide +kernel
theorem dX6_wordKey_30 : decode cX6_wordKey 30 = .ok (.ladd, 1) := by decide +kernel
theorem dX6_wordKey_31 : decode cX6_wordKey 31 = .ok (.lstore_n 1, 1) := by decide +kernel
theorem dX6_wordKey_32 : decode cX6_wordKey 32 = .ok (.iinc 3 1, 3) := by decide +kernel
theorem dX6_wordKey_35 : decode cX6_wordKey 35 = .ok (.goto (-28), 3) := by decide +kernel
theorem dX6_wordKey_38 : decode cX6_wordKey 38 = .ok (.lload_n 1, 1) := by decide +kernel
theorem dX6_wordKey_39 : decode cX6_wordKey 39 = .ok (.lreturn, 1) := by decide +kernel
theorem dX6_numberValue_0 : decode cX6_numberValue 0 = .ok (.iconst 0, 1) := by decide +kernel
theorem dX6_numberValue_1 : decode cX6_numberValue 1 = .ok (.istore_n 1, 1) := by decide +kernel
theorem dX6_numberValue_2 : decode cX6_numberValue 2 = .ok (.aload_n 0, 1) := by decide +kernel
theorem dX6_numberValue_3 : decode cX6_numberValue 3 = .ok (.getfield 32, 3) := by decide +kernel
theorem dX6_numberValue_6 : decode cX6_numberValue 6 = .ok (.istore_n 2, 1) := by decide +kernel
theorem dX6_numberValue_7 : decode cX6_numberValue 7 = .ok (.iload_n 2, 1) := by decide +kernel
theorem dX6_numberValue_8 : decode cX6_numberValue 8 = .ok (.aload_n 0, 1) := by decide +kernel
theorem dX6_numberValue_9 : decode cX6_numberValue 9 = .ok (.getfield 19, 3) := by decide +kernel
theorem dX6_numberValue_12 : decode cX6_numberValue 12 = .ok (.if_icmp .ge 23, 3) := by decide +kernel
theorem dX6_numberValue_15 : decode cX6_numberValue 15 = .ok (.iload_n 1, 1) := by decide +kernel
theorem dX6_numberValue_16 : decode cX6_numberValue 16 = .ok (.bipush 10, 2) := by decide +kernel
theorem dX6_numberValue_18 : decode cX6_numberValue 18 = .ok (.imul, 1) := by decide +kernel
theorem dX6_numberValue_19 : decode cX6_numberValue 19 = .ok (.aload_n 0, 1) := by decide +kernel
theorem dX6_numberValue_20 : decode cX6_numberValue 20 = .ok (.iload_n 2, 1) := by decide +kernel
theorem dX6_numberValue_21 : decode cX6_numberValue 21 = .ok (.invokevirtual 25, 3) := by decide +kernel
theorem dX6_numberValue_24 : decode cX6_numberValue 24 = .ok (.iadd, 1) := by decide +kernel
theorem dX6_numberValue_25 : decode cX6_numberValue 25 = .ok (.bipush 48, 2) := by decide +kernel
theorem dX6_numberValue_27 : decode cX6_numberValue 27 = .ok (.isub, 1) := by decide +kernel
theorem dX6_numberValue_28 : decode cX6_numberValue 28 = .ok (.istore_n 1, 1) := by decide +kernel
theorem dX6_numberValue_29 : decode cX6_numberValue 29 = .ok (.iinc 2 1, 3) := by decide +kernel
theorem dX6_numberValue_32 : decode cX6_numberValue 32 = .ok (.goto (-25), 3) := by decide +kernel
theorem dX6_numberValue_35 : decode cX6_numberValue 35 = .ok (.iload_n 1, 1) := by decide +kernel
theorem dX6_numberValue_36 : decode cX6_numberValue 36 = .ok (.ireturn, 1) := by decide +kernel
set_option maxRecDepth 20000 in
theorem ggX6_advance_X6_byteAt : GoodIn wsX6_advance wsX6_byteAt := goodIn_r _ [9, 2, 10, 14, 15, 16, 17, 18] (by decide +kernel) (by decide +kernel)
set_option maxRecDepth 20000 in
theorem gX6_advance_X6_byteAt : GoodIn wsX6_advance (wsV RX6 25 RX6 yX6_byteAt wsX6_byteAt) := goodIn_app (goodIn_of _ (by decide +kernel)) ggX6_advance_X6_byteAt
set_option maxRecDepth 20000 in
theorem ggX6_advance_X6_kindOf : GoodIn wsX6_advance wsX6_kindOf := goodIn_r _ [13] (by decide +kernel) (by decide +kernel)
set_option maxRecDepth 20000 in
theorem gX6_advance_X6_kindOf : GoodIn wsX6_advance (va_wsS RX6 29 yX6_kindOf wsX6_kindOf) := goodIn_app (goodIn_of _ (by decide +kernel)) ggX6_advance_X6_kindOf
set_option maxRecDepth 20000 in
theorem ggX6_rewind_X6_advance : GoodIn wsX6_rewind wsX6_advance := goodIn_r _ [6, 1, 7, 8, 9, 10, 11, 12, 5, 13, 14, 15, 16, 17, 18, 19, 20, 21, 22] (by decide +kernel) (by decide +kernel)
set_option maxRecDepth 20000 in
theorem gX6_rewind_X6_advance : GoodIn wsX6_rewind (wsV RX6 22 RX6 yX6_advance wsX6_advance) := goodIn_app (goodIn_of _ (by decide +kernel)) ggX6_rewind_X6_advance
set_option maxRecDepth 20000 in
theorem ggX6_isByte_X6_byteAt : GoodIn wsX6_isByte wsX6_byteAt := goodIn_r _ [7, 8, 9, 10, 11, 12, 13, 14] (by decide +kernel) (by decide +kernel)
set_option maxRecDepth 20000 in
theorem gX6_isByte_X6_byteAt : GoodIn wsX6_isByte (wsV RX6 25 RX6 yX6_byteAt wsX6_byteAt) := goodIn_app (goodIn_of _ (by decide +kernel)) ggX6_isByte_X6_byteAt
set_option maxRecDepth 20000 in
theorem ggX6_isWord_J0_length_8abf5 : GoodIn wsX6_isWord wsJ0_length_8abf5 := goodIn_r _ [8, 9, 10, 11, 12, 7, 13, 14, 15] (by decide +kernel) (by decide +kernel)
set_option maxRecDepth 20000 in
theorem gX6_isWord_J0_length_8abf5 : GoodIn wsX6_isWord (wsV RX6 38 RJ0 yJ0_length_8abf5 wsJ0_length_8abf5) := goodIn_app (goodIn_of _ (by decide +kernel)) ggX6_isWord_J0_length_8abf5
set_option maxRecDepth 20000 in
theorem ggX6_isWord_X6_byteAt : GoodIn wsX6_isWord wsX6_byteAt := goodIn_r _ [20, 21, 22, 60, 61, 62, 63, 64] (by decide +kernel) (by decide +kernel)
set_option maxRecDepth 20000 in
theorem gX6_isWord_X6_byteAt : GoodIn wsX6_isWord (wsV RX6 25 RX6 yX6_byteAt wsX6_byteAt) := goodIn_app (goodIn_of _ (by decide +kernel)) ggX6_isWord_X6_byteAt
set_option maxRecDepth 20000 in
theorem ggX6_isWord_J0_charAt_5068e : GoodIn wsX6_isWord wsJ0_charAt_5068e := goodIn_r _ [26, 9, 27, 28, 29, 7, 30, 14, 15, 31, 32, 33, 34, 35, 36, 37, 38, 39, 40, 41, 42, 43, 44, 45, 46, 47, 48, 49, 50, 51, 52, 53, 54, 55, 56, 57, 58, 59] (by decide +kernel) (by decide +kernel)
set_option maxRecDepth 20000 in
theorem gX6_isWord_J0_charAt_5068e : GoodIn wsX6_isWord (wsV RX6 43 RJ0 yJ0_charAt_5068e wsJ0_charAt_5068e) := goodIn_app (goodIn_of _ (by decide +kernel)) ggX6_isWord_J0_charAt_5068e
set_option maxRecDepth 20000 in
theorem ggX6_wordKey_X6_byteAt : GoodIn wsX6_wordKey wsX6_byteAt := goodIn_r _ [8, 9, 10, 11, 12, 13, 14, 15] (by decide +kernel) (by decide +kernel)
set_option maxRecDepth 20000 in
theorem gX6_wordKey_X6_byteAt : GoodIn wsX6_wordKey (wsV RX6 25 RX6 yX6_byteAt wsX6_byteAt) := goodIn_app (goodIn_of _ (by decide +kernel)) ggX6_wordKey_X6_byteAt
set_option maxRecDepth 20000 in
theorem ggX6_numberValue_X6_byteAt : GoodIn wsX6_numberValue wsX6_byteAt := goodIn_r _ [7, 8, 9, 10, 11, 12, 13, 14] (by decide +kernel) (by decide +kernel)
set_option maxRecDepth 20000 in
theorem gX6_numberValue_X6_byteAt : GoodIn wsX6_numberValue (wsV RX6 25 RX6 yX6_byteAt wsX6_byteAt) := goodIn_app (goodIn_of _ (by decide +kernel)) ggX6_numberValue_X6_byteAt
theorem i_in400 {n : Int32} (a : ¬ n < 0) (b : ¬ 400 ≤ n) : vp_in n 400 := by
  rw [i_lt] at a
  rw [i_le] at b
  have h0 : (0 : Int32).toInt = 0 := by decide
  have h1 : (400 : Int32).toInt = 400 := by decide
  rw [h0] at a; rw [h1] at b
  exact vp_in_iff.mpr ⟨by omega, by omega⟩
set_option maxHeartbeats 4000000 in
set_option maxRecDepth 100000 in
theorem s_byteAt (l : Launch) (D : va_G) (ws : va_W) (tys : List (ClassId × FieldType)) (tp ktp tl : Nat) (x1 x2 x3 : Int32) (bb kbb : Nat) (cbb : ClassId) (tbb : Nat) (fbb : Nat → Int32) (a1 : Int32) (etp : ws[ktp]? = some (tp, .inr (6, [.int (nI tl), .int x1, .int x2, .int x3, .ref bb]))) (ebb : ws[kbb]? = some (bb, .inl (cbb, 400, .inl fbb))) (ubb : tys[tbb]? = some (cbb, .int)) : Met l yX6_byteAt wsX6_byteAt ({ frames := 0, cells := 0, slots := 0, locals := 0 }) (va_Pc [.ref tp, .int a1] (fun U => va_P D vwCl ws U.heap ∧ va_K D vwCl tys U)) (vp_Si (fun r => r = (-1) ∨ ¬ nI tl ≤ a1)) 0 0 (fun _ => False) := by
  refine Met.ofW (cc := cX6_byteAt) (maxL := 2) (ret := (some .int)) (by decide) rfl ?_
  intro p e s m args below meth c s₁ B hml hv
  obtain ⟨rfl, hP, hK⟩ := hv
  have hx := B.exec
  have hb := B.bytes
  have hr := B.returns
  have hts := atoms_spec (ws := wsX6_byteAt) B.pre
  have hown : s.vm.findClass RX6 = some m.cls := findClass_of_methodNamed B.named
  have hlocks := B.notSynchronized
  have hin6 : ∀ w ∈ u_ws RX6 TX6 5, w ∈ wsX6_byteAt := (fun _ h9 => List.mem_cons_of_mem _ ((List.mem_append_right _ h9)))
  have hl := lv_entry ([.ref tp, .int a1]) (n := 2) (Nat.le_of_ble_eq_true rfl)
  rw [lg_entry_eq]
  generalize (lg_sl ([.ref tp, .int a1]) ++ List.replicate (2 - (lg_sl ([.ref tp, .int a1])).length) Slot.unset).toArray = ls at hl ⊢
  have hl : lv_has ls 2 [(0, .ref tp), (1, .int a1)] := hl
  refine lv_iload_n hx hb dX6_byteAt_0 rfl (lv_at hl 1 rfl) ?_
  refine lv_if_lt (tgt := 30) hx hb dX6_byteAt_1 (by decide) (fun c_1 => ?_) (fun c_1 => ?_)
  · refine lv_iconst (v := (-1)) hx hb dX6_byteAt_30 (by decide) ?_
    exact W.iret (v := (-1)) hx hb hr (fun t ht hW => ⟨(-1), rfl, Or.inl rfl, ht⟩) (fun _ h9 => by cases h9) dX6_byteAt_31
  refine lv_iload_n hx hb dX6_byteAt_4 rfl (lv_at hl 1 rfl) ?_
  refine lv_aload_n hx hb dX6_byteAt_5 rfl (lv_at hl 0 rfl) ?_
  refine va_get (D := D) (ci := 6) (v := .int (nI tl)) (C := RX6) (T := TX6) (N := 5) hx hb hts hin6 hown hK hP ktp etp rfl 0 (by decide) (hts (.fieldLink RX6 15 "HoneyHouse$Tape" "length" "I") (List.mem_of_getElem? (i := 1) rfl)) (fun _ h9 => h9) rfl dX6_byteAt_6 ?_
  refine lv_icmp_ge (tgt := 30) hx hb dX6_byteAt_9 (by decide) (fun c_2 => ?_) (fun c_2 => ?_)
  · refine lv_iconst (v := (-1)) hx hb dX6_byteAt_30 (by decide) ?_
    exact W.iret (v := (-1)) hx hb hr (fun t ht hW => ⟨(-1), rfl, Or.inl rfl, ht⟩) (fun _ h9 => by cases h9) dX6_byteAt_31
  refine lv_iload_n hx hb dX6_byteAt_12 rfl (lv_at hl 1 rfl) ?_
  refine lv_aload_n hx hb dX6_byteAt_13 rfl (lv_at hl 0 rfl) ?_
  refine va_get (D := D) (ci := 6) (v := .ref bb) (C := RX6) (T := TX6) (N := 5) hx hb hts hin6 hown hK hP ktp etp rfl 4 (by decide) (hts (.fieldLink RX6 9 "HoneyHouse$Tape" "bytes" "[I") (List.mem_of_getElem? (i := 2) rfl)) (fun _ h9 => h9) rfl dX6_byteAt_14 ?_
  refine va_alen (v := 400) hx hb hK hP kbb tbb ebb ubb rfl dX6_byteAt_17 ?_
  refine lv_icmp_ge (tgt := 30) hx hb dX6_byteAt_18 (by decide) (fun c_3 => ?_) (fun c_3 => ?_)
  · refine lv_iconst (v := (-1)) hx hb dX6_byteAt_30 (by decide) ?_
    exact W.iret (v := (-1)) hx hb hr (fun t ht hW => ⟨(-1), rfl, Or.inl rfl, ht⟩) (fun _ h9 => by cases h9) dX6_byteAt_31
  refine lv_aload_n hx hb dX6_byteAt_21 rfl (lv_at hl 0 rfl) ?_
  refine va_get (D := D) (ci := 6) (v := .ref bb) (C := RX6) (T := TX6) (N := 5) hx hb hts hin6 hown hK hP ktp etp rfl 4 (by decide) (hts (.fieldLink RX6 9 "HoneyHouse$Tape" "bytes" "[I") (List.mem_of_getElem? (i := 2) rfl)) (fun _ h9 => h9) rfl dX6_byteAt_22 ?_
  refine lv_iload_n hx hb dX6_byteAt_25 rfl (lv_at hl 1 rfl) ?_
  refine va_iald (f := fbb) (n := 400) hx hb hK hP kbb tbb ebb ubb (i_in400 c_1 c_3) dX6_byteAt_26 ?_
  refine lv_goto (tgt := 31) hx hb dX6_byteAt_27 (by decide) ?_
  exact W.iret (v := fbb a1.toNatClampNeg) hx hb hr (fun t ht hW => ⟨fbb a1.toNatClampNeg, rfl, Or.inr c_2, ht⟩) (fun _ h9 => by cases h9) dX6_byteAt_31
set_option maxHeartbeats 4000000 in
set_option maxRecDepth 100000 in
theorem s_kindOf (l : Launch) (n : Int32) : Met l yX6_kindOf wsX6_kindOf ({ frames := 0, cells := 0, slots := 0, locals := 0 }) (va_Pc [.int n] (fun _ => True)) (vp_Si (fun r => (n = (-1) → r = 0) ∧ ∃ k : Nat, k ≤ 4 ∧ r = nI k)) 0 0 (fun _ => False) := by
  refine Met.ofW (cc := cX6_kindOf) (maxL := 1) (ret := (some .int)) (by decide) rfl ?_
  intro p e s m args below meth c s₁ B hml hv
  obtain ⟨rfl, -⟩ := hv
  have hx := B.exec
  have hb := B.bytes
  have hr := B.returns
  have hts := atoms_spec (ws := wsX6_kindOf) B.pre
  have hown : s.vm.findClass RX6 = some m.cls := findClass_of_methodNamed B.named
  have hlocks := B.notSynchronized
  have hl := lv_entry ([.int n]) (n := 1) (Nat.le_of_ble_eq_true rfl)
  rw [lg_entry_eq]
  generalize (lg_sl ([.int n]) ++ List.replicate (1 - (lg_sl ([.int n])).length) Slot.unset).toArray = ls at hl ⊢
  have hl : lv_has ls 1 [(0, .int n)] := hl
  refine lv_iload_n hx hb dX6_kindOf_0 rfl (lv_at hl 0 rfl) ?_
  refine lv_bipush (v := 97) hx hb dX6_kindOf_1 (by decide) ?_
  refine lv_icmp_lt (tgt := 14) hx hb dX6_kindOf_3 (by decide) (fun c_1 => ?_) (fun c_1 => ?_)
  · refine lv_iload_n hx hb dX6_kindOf_14 rfl (lv_at hl 0 rfl) ?_
    refine lv_bipush (v := 48) hx hb dX6_kindOf_15 (by decide) ?_
    refine lv_icmp_lt (tgt := 28) hx hb dX6_kindOf_17 (by decide) (fun c_2 => ?_) (fun c_2 => ?_)
    · refine lv_iload_n hx hb dX6_kindOf_28 rfl (lv_at hl 0 rfl) ?_
      refine lv_bipush (v := 10) hx hb dX6_kindOf_29 (by decide) ?_
      refine lv_icmp_eq (tgt := 40) hx hb dX6_kindOf_31 (by decide) (fun c_3 => ?_) (fun c_3 => ?_)
      · refine lv_iconst (v := 3) hx hb dX6_kindOf_40 (by decide) ?_
        exact W.iret (v := 3) hx hb hr (fun t ht hW => ⟨3, rfl, ⟨fun h9 => by subst h9; revert c_1 c_2 c_3; decide, 3, by omega, rfl⟩, ht⟩) (fun _ h9 => by cases h9) dX6_kindOf_41
      refine lv_iload_n hx hb dX6_kindOf_34 rfl (lv_at hl 0 rfl) ?_
      refine lv_bipush (v := 32) hx hb dX6_kindOf_35 (by decide) ?_
      refine lv_icmp_ne (tgt := 42) hx hb dX6_kindOf_37 (by decide) (fun c_4 => ?_) (fun c_4 => ?_)
      · refine lv_iload_n hx hb dX6_kindOf_42 rfl (lv_at hl 0 rfl) ?_
        refine lv_iconst (v := (-1)) hx hb dX6_kindOf_43 (by decide) ?_
        refine lv_icmp_ne (tgt := 51) hx hb dX6_kindOf_44 (by decide) (fun c_5 => ?_) (fun c_5 => ?_)
        · refine lv_iconst (v := 4) hx hb dX6_kindOf_51 (by decide) ?_
          exact W.iret (v := 4) hx hb hr (fun t ht hW => ⟨4, rfl, ⟨fun h9 => by subst h9; revert c_1 c_2 c_3 c_4 c_5; decide, 4, by omega, rfl⟩, ht⟩) (fun _ h9 => by cases h9) dX6_kindOf_52
        refine lv_iconst (v := 0) hx hb dX6_kindOf_47 (by decide) ?_
        refine lv_goto (tgt := 52) hx hb dX6_kindOf_48 (by decide) ?_
        exact W.iret (v := 0) hx hb hr (fun t ht hW => ⟨0, rfl, ⟨fun h9 => by subst h9; revert c_1 c_2 c_3 c_4 c_5; decide, 0, by omega, rfl⟩, ht⟩) (fun _ h9 => by cases h9) dX6_kindOf_52
      refine lv_iconst (v := 3) hx hb dX6_kindOf_40 (by decide) ?_
      exact W.iret (v := 3) hx hb hr (fun t ht hW => ⟨3, rfl, ⟨fun h9 => by subst h9; revert c_1 c_2 c_3 c_4; decide, 3, by omega, rfl⟩, ht⟩) (fun _ h9 => by cases h9) dX6_kindOf_41
    refine lv_iload_n hx hb dX6_kindOf_20 rfl (lv_at hl 0 rfl) ?_
    refine lv_bipush (v := 57) hx hb dX6_kindOf_21 (by decide) ?_
    refine lv_icmp_gt (tgt := 28) hx hb dX6_kindOf_23 (by decide) (fun c_6 => ?_) (fun c_6 => ?_)
    · refine lv_iload_n hx hb dX6_kindOf_28 rfl (lv_at hl 0 rfl) ?_
      refine lv_bipush (v := 10) hx hb dX6_kindOf_29 (by decide) ?_
      refine lv_icmp_eq (tgt := 40) hx hb dX6_kindOf_31 (by decide) (fun c_7 => ?_) (fun c_7 => ?_)
      · refine lv_iconst (v := 3) hx hb dX6_kindOf_40 (by decide) ?_
        exact W.iret (v := 3) hx hb hr (fun t ht hW => ⟨3, rfl, ⟨fun h9 => by subst h9; revert c_1 c_2 c_6 c_7; decide, 3, by omega, rfl⟩, ht⟩) (fun _ h9 => by cases h9) dX6_kindOf_41
      refine lv_iload_n hx hb dX6_kindOf_34 rfl (lv_at hl 0 rfl) ?_
      refine lv_bipush (v := 32) hx hb dX6_kindOf_35 (by decide) ?_
      refine lv_icmp_ne (tgt := 42) hx hb dX6_kindOf_37 (by decide) (fun c_8 => ?_) (fun c_8 => ?_)
      · refine lv_iload_n hx hb dX6_kindOf_42 rfl (lv_at hl 0 rfl) ?_
        refine lv_iconst (v := (-1)) hx hb dX6_kindOf_43 (by decide) ?_
        refine lv_icmp_ne (tgt := 51) hx hb dX6_kindOf_44 (by decide) (fun c_9 => ?_) (fun c_9 => ?_)
        · refine lv_iconst (v := 4) hx hb dX6_kindOf_51 (by decide) ?_
          exact W.iret (v := 4) hx hb hr (fun t ht hW => ⟨4, rfl, ⟨fun h9 => by subst h9; revert c_1 c_2 c_6 c_7 c_8 c_9; decide, 4, by omega, rfl⟩, ht⟩) (fun _ h9 => by cases h9) dX6_kindOf_52
        refine lv_iconst (v := 0) hx hb dX6_kindOf_47 (by decide) ?_
        refine lv_goto (tgt := 52) hx hb dX6_kindOf_48 (by decide) ?_
        exact W.iret (v := 0) hx hb hr (fun t ht hW => ⟨0, rfl, ⟨fun h9 => by subst h9; revert c_1 c_2 c_6 c_7 c_8 c_9; decide, 0, by omega, rfl⟩, ht⟩) (fun _ h9 => by cases h9) dX6_kindOf_52
      refine lv_iconst (v := 3) hx hb dX6_kindOf_40 (by decide) ?_
      exact W.iret (v := 3) hx hb hr (fun t ht hW => ⟨3, rfl, ⟨fun h9 => by subst h9; revert c_1 c_2 c_6 c_7 c_8; decide, 3, by omega, rfl⟩, ht⟩) (fun _ h9 => by cases h9) dX6_kindOf_41
    refine lv_iconst (v := 2) hx hb dX6_kindOf_26 (by decide) ?_
    exact W.iret (v := 2) hx hb hr (fun t ht hW => ⟨2, rfl, ⟨fun h9 => by subst h9; revert c_1 c_2 c_6; decide, 2, by omega, rfl⟩, ht⟩) (fun _ h9 => by cases h9) dX6_kindOf_27
  refine lv_iload_n hx hb dX6_kindOf_6 rfl (lv_at hl 0 rfl) ?_
  refine lv_bipush (v := 122) hx hb dX6_kindOf_7 (by decide) ?_
  refine lv_icmp_gt (tgt := 14) hx hb dX6_kindOf_9 (by decide) (fun c_10 => ?_) (fun c_10 => ?_)
  · refine lv_iload_n hx hb dX6_kindOf_14 rfl (lv_at hl 0 rfl) ?_
    refine lv_bipush (v := 48) hx hb dX6_kindOf_15 (by decide) ?_
    refine lv_icmp_lt (tgt := 28) hx hb dX6_kindOf_17 (by decide) (fun c_11 => ?_) (fun c_11 => ?_)
    · refine lv_iload_n hx hb dX6_kindOf_28 rfl (lv_at hl 0 rfl) ?_
      refine lv_bipush (v := 10) hx hb dX6_kindOf_29 (by decide) ?_
      refine lv_icmp_eq (tgt := 40) hx hb dX6_kindOf_31 (by decide) (fun c_12 => ?_) (fun c_12 => ?_)
      · refine lv_iconst (v := 3) hx hb dX6_kindOf_40 (by decide) ?_
        exact W.iret (v := 3) hx hb hr (fun t ht hW => ⟨3, rfl, ⟨fun h9 => by subst h9; revert c_1 c_10 c_11 c_12; decide, 3, by omega, rfl⟩, ht⟩) (fun _ h9 => by cases h9) dX6_kindOf_41
      refine lv_iload_n hx hb dX6_kindOf_34 rfl (lv_at hl 0 rfl) ?_
      refine lv_bipush (v := 32) hx hb dX6_kindOf_35 (by decide) ?_
      refine lv_icmp_ne (tgt := 42) hx hb dX6_kindOf_37 (by decide) (fun c_13 => ?_) (fun c_13 => ?_)
      · refine lv_iload_n hx hb dX6_kindOf_42 rfl (lv_at hl 0 rfl) ?_
        refine lv_iconst (v := (-1)) hx hb dX6_kindOf_43 (by decide) ?_
        refine lv_icmp_ne (tgt := 51) hx hb dX6_kindOf_44 (by decide) (fun c_14 => ?_) (fun c_14 => ?_)
        · refine lv_iconst (v := 4) hx hb dX6_kindOf_51 (by decide) ?_
          exact W.iret (v := 4) hx hb hr (fun t ht hW => ⟨4, rfl, ⟨fun h9 => by subst h9; revert c_1 c_10 c_11 c_12 c_13 c_14; decide, 4, by omega, rfl⟩, ht⟩) (fun _ h9 => by cases h9) dX6_kindOf_52
        refine lv_iconst (v := 0) hx hb dX6_kindOf_47 (by decide) ?_
        refine lv_goto (tgt := 52) hx hb dX6_kindOf_48 (by decide) ?_
        exact W.iret (v := 0) hx hb hr (fun t ht hW => ⟨0, rfl, ⟨fun h9 => by subst h9; revert c_1 c_10 c_11 c_12 c_13 c_14; decide, 0, by omega, rfl⟩, ht⟩) (fun _ h9 => by cases h9) dX6_kindOf_52
      refine lv_iconst (v := 3) hx hb dX6_kindOf_40 (by decide) ?_
      exact W.iret (v := 3) hx hb hr (fun t ht hW => ⟨3, rfl, ⟨fun h9 => by subst h9; revert c_1 c_10 c_11 c_12 c_13; decide, 3, by omega, rfl⟩, ht⟩) (fun _ h9 => by cases h9) dX6_kindOf_41
    refine lv_iload_n hx hb dX6_kindOf_20 rfl (lv_at hl 0 rfl) ?_
    refine lv_bipush (v := 57) hx hb dX6_kindOf_21 (by decide) ?_
    refine lv_icmp_gt (tgt := 28) hx hb dX6_kindOf_23 (by decide) (fun c_15 => ?_) (fun c_15 => ?_)
    · refine lv_iload_n hx hb dX6_kindOf_28 rfl (lv_at hl 0 rfl) ?_
      refine lv_bipush (v := 10) hx hb dX6_kindOf_29 (by decide) ?_
      refine lv_icmp_eq (tgt := 40) hx hb dX6_kindOf_31 (by decide) (fun c_16 => ?_) (fun c_16 => ?_)
      · refine lv_iconst (v := 3) hx hb dX6_kindOf_40 (by decide) ?_
        exact W.iret (v := 3) hx hb hr (fun t ht hW => ⟨3, rfl, ⟨fun h9 => by subst h9; revert c_1 c_10 c_11 c_15 c_16; decide, 3, by omega, rfl⟩, ht⟩) (fun _ h9 => by cases h9) dX6_kindOf_41
      refine lv_iload_n hx hb dX6_kindOf_34 rfl (lv_at hl 0 rfl) ?_
      refine lv_bipush (v := 32) hx hb dX6_kindOf_35 (by decide) ?_
      refine lv_icmp_ne (tgt := 42) hx hb dX6_kindOf_37 (by decide) (fun c_17 => ?_) (fun c_17 => ?_)
      · refine lv_iload_n hx hb dX6_kindOf_42 rfl (lv_at hl 0 rfl) ?_
        refine lv_iconst (v := (-1)) hx hb dX6_kindOf_43 (by decide) ?_
        refine lv_icmp_ne (tgt := 51) hx hb dX6_kindOf_44 (by decide) (fun c_18 => ?_) (fun c_18 => ?_)
        · refine lv_iconst (v := 4) hx hb dX6_kindOf_51 (by decide) ?_
          exact W.iret (v := 4) hx hb hr (fun t ht hW => ⟨4, rfl, ⟨fun h9 => by subst h9; revert c_1 c_10 c_11 c_15 c_16 c_17 c_18; decide, 4, by omega, rfl⟩, ht⟩) (fun _ h9 => by cases h9) dX6_kindOf_52
        refine lv_iconst (v := 0) hx hb dX6_kindOf_47 (by decide) ?_
        refine lv_goto (tgt := 52) hx hb dX6_kindOf_48 (by decide) ?_
        exact W.iret (v := 0) hx hb hr (fun t ht hW => ⟨0, rfl, ⟨fun h9 => by subst h9; revert c_1 c_10 c_11 c_15 c_16 c_17 c_18; decide, 0, by omega, rfl⟩, ht⟩) (fun _ h9 => by cases h9) dX6_kindOf_52
      refine lv_iconst (v := 3) hx hb dX6_kindOf_40 (by decide) ?_
      exact W.iret (v := 3) hx hb hr (fun t ht hW => ⟨3, rfl, ⟨fun h9 => by subst h9; revert c_1 c_10 c_11 c_15 c_16 c_17; decide, 3, by omega, rfl⟩, ht⟩) (fun _ h9 => by cases h9) dX6_kindOf_41
    refine lv_iconst (v := 2) hx hb dX6_kindOf_26 (by decide) ?_
    exact W.iret (v := 2) hx hb hr (fun t ht hW => ⟨2, rfl, ⟨fun h9 => by subst h9; revert c_1 c_10 c_11 c_15; decide, 2, by omega, rfl⟩, ht⟩) (fun _ h9 => by cases h9) dX6_kindOf_27
  refine lv_iconst (v := 1) hx hb dX6_kindOf_12 (by decide) ?_
  exact W.iret (v := 1) hx hb hr (fun t ht hW => ⟨1, rfl, ⟨fun h9 => by subst h9; revert c_1 c_10; decide, 1, by omega, rfl⟩, ht⟩) (fun _ h9 => by cases h9) dX6_kindOf_13
set_option maxHeartbeats 4000000 in
set_option maxRecDepth 100000 in
theorem a_advance (l : Launch) (D : va_G) (ws : va_W) (tys : List (ClassId × FieldType)) (tp ktp tl te : Nat) (x1 x2 : Int32) (bb kbb : Nat) (cbb : ClassId) (tbb : Nat) (fbb : Nat → Int32) (sz : Nat) (htl : tl ≤ 400) (hte : te ≤ tl) (etp : ws[ktp]? = some (tp, .inr (6, [.int (nI tl), .int x1, .int x2, .int (nI te), .ref bb]))) (ebb : ws[kbb]? = some (bb, .inl (cbb, 400, .inl fbb))) (ubb : tys[tbb]? = some (cbb, .int)) : Met l yX6_advance wsX6_advance ({ frames := 1, cells := 0, slots := 0, locals := 21 }) (va_Pc [.ref tp] (fun U => U.heap.size = sz ∧ va_P D vwCl ws U.heap ∧ va_K D vwCl tys U ∧ va_D (fun _ => True) ws)) (va_Qv (fun _ : Unit => True) (fun (_ : Unit) (t : State) => ∃ (ws' : va_W) (tys' : List (ClassId × FieldType)), sm [6] ws ws' ∧ tyx tys tys' ∧ va_P D vwCl ws' t.heap ∧ va_K D vwCl tys' t ∧ va_D (va_A ws sz) ws' ∧ ∃ k s2 e2 : Nat, k ≤ 4 ∧ s2 ≤ e2 ∧ e2 ≤ tl ∧ ws'[ktp]? = some (tp, .inr (6, [.int (nI tl), .int (nI k), .int (nI s2), .int (nI e2), .ref bb]))) (va_A ws sz)) 0 0 (va_A ws sz) := by
  refine Met.ofW (cc := cX6_advance) (maxL := 3) (ret := none) (by decide) rfl ?_
  intro p e s m args below meth c s₁ B hml hv
  obtain ⟨rfl, hsz, hP, hK, hD0⟩ := hv
  have hx := B.exec
  have hb := B.bytes
  have hr := B.returns
  have hts := atoms_spec (ws := wsX6_advance) B.pre
  have hown : s.vm.findClass RX6 = some m.cls := findClass_of_methodNamed B.named
  have hlocks := B.notSynchronized
  subst hsz
  have hD := hD0.self (sz := s.heap.size)
  generalize hAe : va_A ws s.heap.size = A at hD ⊢
  have hA : ∀ q : Nat, s.heap.size ≤ q → A q := fun q h => by rw [← hAe]; exact Or.inr h
  have hS : va_S A s.heap s.heap [] := va_S.rf
  have hsm : sm [6] ws ws := sm.rf ws
  have htx : tyx tys tys := tyx.rf tys
  have hin6 : ∀ w ∈ u_ws RX6 TX6 5, w ∈ wsX6_advance := (fun _ h9 => List.mem_cons_of_mem _ ((List.mem_append_right _ h9)))
  have hl := lv_entry ([.ref tp]) (n := 3) (Nat.le_of_ble_eq_true rfl)
  rw [lg_entry_eq]
  generalize (lg_sl ([.ref tp]) ++ List.replicate (3 - (lg_sl ([.ref tp])).length) Slot.unset).toArray = ls at hl ⊢
  have hl : lv_has ls 3 [(0, .ref tp)] := hl
  refine lv_aload_n hx hb dX6_advance_0 rfl (lv_at hl 0 rfl) ?_
  refine va_get (D := D) (ci := 6) (v := .int (nI te)) (C := RX6) (T := TX6) (N := 5) hx hb hts hin6 hown hK hP ktp etp rfl 3 (by decide) (hts (.fieldLink RX6 19 "HoneyHouse$Tape" "end" "I") (List.mem_of_getElem? (i := 1) rfl)) (fun _ h9 => h9) rfl dX6_advance_1 ?_
  refine lv_istore_n (lv' := [(1, .int (nI te)), (0, .ref tp)]) hx hb dX6_advance_4 rfl hl (by decide) rfl (fun ls hl => ?_)
  refine lp_V (nL := 3) (σ := Nat) (lv := fun x9 => [(1, .int (nI x9)), (0, .ref tp)]) (μ := fun x9 => tl - x9) (J := fun x9 ws9 => sm [] ws ws9 ∧ (te ≤ x9 ∧ x9 ≤ tl)) (fun x9 ws_4 H locs ls hj hP hD hS hl ih_1 => ?_) te ws _ _ ls ⟨sm.rf _, (show te ≤ te ∧ te ≤ tl from by omega)⟩ hP hD hS (lv_sub hl [0, 1] rfl)
  obtain ⟨a_2, hx9⟩ : ∃ y9, y9 = x9 := ⟨_, rfl⟩
  subst hx9
  have hj : sm [] ws ws_4 ∧ (te ≤ a_2 ∧ a_2 ≤ tl) := hj
  obtain ⟨hm_5, ha_3⟩ := hj
  have e_7 := hm_5.objK etp (by decide)
  obtain ⟨f_9, e_8⟩ := hm_5.arrI ebb
  have hsm := hsm.tr (hm_5.mono (by decide))
  have hlp_6 := hm_5
  have hl : lv_has ls 3 [(1, .int (nI a_2)), (0, .ref tp)] := hl
  refine lv_iload_n hx hb dX6_advance_5 rfl (lv_at hl 0 rfl) ?_
  refine lv_aload_n hx hb dX6_advance_6 rfl (lv_at hl 1 rfl) ?_
  refine va_get (D := D) (ci := 6) (v := .int (nI tl)) (C := RX6) (T := TX6) (N := 5) hx hb hts hin6 hown hK hP ktp e_7 rfl 0 (by decide) (hts (.fieldLink RX6 15 "HoneyHouse$Tape" "length" "I") (List.mem_of_getElem? (i := 2) rfl)) (fun _ h9 => h9) rfl dX6_advance_7 ?_
  refine lv_icmp_ge (tgt := 31) hx hb dX6_advance_10 (by decide) (fun c_10 => ?_) (fun c_10 => ?_)
  · have d_11 := n_le (a := tl) (b := a_2) (by omega) (by omega) c_10
    refine lv_aload_n hx hb dX6_advance_31 rfl (lv_at hl 1 rfl) ?_
    refine lv_iload_n hx hb dX6_advance_32 rfl (lv_at hl 0 rfl) ?_
    refine va_put (D := D) (ci := 6) (v := .int (nI a_2)) (ty := .int) (C := RX6) (T := TX6) (N := 5) hx hb hts hin6 tyX6 tyX6_ok nmX6 hown hK hP hD hS ktp e_7 rfl 2 (by decide) (hts (.fieldLink RX6 32 "HoneyHouse$Tape" "start" "I") (List.mem_of_getElem? (i := 3) rfl)) (fun _ h9 => h9) rfl (tyX6_ok 2 (by decide)) rfl rfl (Nat.le_of_ble_eq_true rfl) dX6_advance_33 (fun H locs hP hD hS => ?_)
    have hP : va_P D vwCl (ws_4.set ktp (tp, .inr (6, [.int (nI tl), .int x1, .int (nI a_2), .int (nI te), .ref bb]))) H := hP
    have hD : va_D A (ws_4.set ktp (tp, .inr (6, [.int (nI tl), .int x1, .int (nI a_2), .int (nI te), .ref bb]))) := hD
    have hm_13 : sm [6] ws_4 (ws_4.set ktp (tp, .inr (6, [.int (nI tl), .int x1, .int (nI a_2), .int (nI te), .ref bb]))) := sm.flds e_7 (smF.c (smV.rf _) (smF.c (smV.rf _) (smF.c (smV.i _ _) (smF.c (smV.rf _) (smF.c (smV.rf _) (rfl)))))) (List.mem_singleton.mpr rfl)
    have e_14 : (ws_4.set ktp (tp, .inr (6, [.int (nI tl), .int x1, .int (nI a_2), .int (nI te), .ref bb])))[ktp]? = some (tp, .inr (6, [.int (nI tl), .int x1, .int (nI a_2), .int (nI te), .ref bb])) := wset_self e_7
    generalize ws_4.set ktp (tp, .inr (6, [.int (nI tl), .int x1, .int (nI a_2), .int (nI te), .ref bb])) = ws_12 at hP hD hm_13 e_14
    obtain ⟨f_16, e_15⟩ := hm_13.arrI e_8
    have hsm := hsm.tr (hm_13.mono (by decide))
    have hlp_6 := hlp_6.tr (hm_13.mono (by decide))
    refine lv_aload_n hx hb dX6_advance_36 rfl (lv_at hl 1 rfl) ?_
    refine lv_aload_n hx hb dX6_advance_37 rfl (lv_at hl 1 rfl) ?_
    refine lv_iload_n hx hb dX6_advance_38 rfl (lv_at hl 0 rfl) ?_
    refine vp_callSi (W.runV (As := [.int (nI a_2)]) (rest := [.ref tp]) ⟨hx, hb, hml, hown, hts⟩ (s_byteAt l D ws_12 tys tp ktp tl x1 (nI a_2) (nI te) bb kbb cbb tbb f_16 (nI a_2) e_14 e_15 ubb) (cwV 1 hts gX6_advance_X6_byteAt rfl rfl rfl (by decide +kernel) ⟨Nat.le_of_ble_eq_true rfl, Nat.le_of_ble_eq_true rfl⟩) ⟨fun a U g mk q => ⟨q.1, q.2.1, va_K.moved (u := U) (U := U.calling g mk a) (Vm.Alike.refl U.vm) q.2.2⟩, va_recv hK hP (ci := 6) (q0 := ktp) rfl e_14, fun U hU hW => ⟨rfl, by rw [hU]; exact hP, va_K.moved hW.alike hK⟩⟩ rfl rfl hl.1 rfl (lv_room (Nat.le_of_ble_eq_true rfl)) dX6_advance_39 ⟨Nat.le_of_ble_eq_true rfl, Nat.le_of_ble_eq_true rfl⟩) (fun r_17 k_18 => ?_)
    refine vp_callSi (W.runS (As := [.int r_17]) (rest := [.ref tp]) ⟨hx, hb, hml, hown, hts⟩ (s_kindOf l r_17) (va_cwS 1 hts gX6_advance_X6_kindOf rfl rfl rfl (by decide +kernel) ⟨Nat.le_of_ble_eq_true rfl, Nat.le_of_ble_eq_true rfl⟩) ⟨fun a U g mk q => q, fun U hU hW => ⟨rfl, trivial⟩⟩ rfl rfl hl.1 rfl (lv_room (Nat.le_of_ble_eq_true rfl)) dX6_advance_42 ⟨Nat.le_of_ble_eq_true rfl, Nat.le_of_ble_eq_true rfl⟩) (fun r_19 k_20 => ?_)
    obtain ⟨hk_21, k_22, hk_23, rfl⟩ := k_20
    refine va_put (D := D) (ci := 6) (v := .int (nI k_22)) (ty := .int) (C := RX6) (T := TX6) (N := 5) hx hb hts hin6 tyX6 tyX6_ok nmX6 hown hK hP hD hS ktp e_14 rfl 1 (by decide) (hts (.fieldLink RX6 35 "HoneyHouse$Tape" "kind" "I") (List.mem_of_getElem? (i := 4) rfl)) (fun _ h9 => h9) rfl (tyX6_ok 1 (by decide)) rfl rfl (Nat.le_of_ble_eq_true rfl) dX6_advance_45 (fun H locs hP hD hS => ?_)
    have hP : va_P D vwCl (ws_12.set ktp (tp, .inr (6, [.int (nI tl), .int (nI k_22), .int (nI a_2), .int (nI te), .ref bb]))) H := hP
    have hD : va_D A (ws_12.set ktp (tp, .inr (6, [.int (nI tl), .int (nI k_22), .int (nI a_2), .int (nI te), .ref bb]))) := hD
    have hm_25 : sm [6] ws_12 (ws_12.set ktp (tp, .inr (6, [.int (nI tl), .int (nI k_22), .int (nI a_2), .int (nI te), .ref bb]))) := sm.flds e_14 (smF.c (smV.rf _) (smF.c (smV.i _ _) (smF.c (smV.rf _) (smF.c (smV.rf _) (smF.c (smV.rf _) (rfl)))))) (List.mem_singleton.mpr rfl)
    have e_26 : (ws_12.set ktp (tp, .inr (6, [.int (nI tl), .int (nI k_22), .int (nI a_2), .int (nI te), .ref bb])))[ktp]? = some (tp, .inr (6, [.int (nI tl), .int (nI k_22), .int (nI a_2), .int (nI te), .ref bb])) := wset_self e_14
    generalize ws_12.set ktp (tp, .inr (6, [.int (nI tl), .int (nI k_22), .int (nI a_2), .int (nI te), .ref bb])) = ws_24 at hP hD hm_25 e_26
    obtain ⟨f_28, e_27⟩ := hm_25.arrI e_15
    have hsm := hsm.tr (hm_25.mono (by decide))
    have hlp_6 := hlp_6.tr (hm_25.mono (by decide))
    refine lv_aload_n hx hb dX6_advance_48 rfl (lv_at hl 1 rfl) ?_
    refine lv_aload_n hx hb dX6_advance_49 rfl (lv_at hl 1 rfl) ?_
    refine va_get (D := D) (ci := 6) (v := .int (nI k_22)) (C := RX6) (T := TX6) (N := 5) hx hb hts hin6 hown hK hP ktp e_26 rfl 1 (by decide) (hts (.fieldLink RX6 35 "HoneyHouse$Tape" "kind" "I") (List.mem_of_getElem? (i := 4) rfl)) (fun _ h9 => h9) rfl dX6_advance_50 ?_
    refine lv_if_ne (tgt := 60) hx hb dX6_advance_53 (by decide) (fun c_29 => ?_) (fun c_29 => ?_)
    · have d_30 := n_ne (a := k_22) (b := 0) (by omega) (by omega) c_29
      have hlt : a_2 < tl := k_18.elim (fun q => absurd (n_eq (a := k_22) (b := 0) (by omega) (by omega) (hk_21 q)) d_30) (fun q => n_nle (a := tl) (b := a_2) (by omega) (by omega) q)
      refine lv_iload_n hx hb dX6_advance_60 rfl (lv_at hl 0 rfl) ?_
      refine lv_iconst (v := 1) hx hb dX6_advance_61 (by decide) ?_
      refine lv_iadd hx hb dX6_advance_62 ?_
      refine tp_i (y := nI (a_2 + 1)) (nI_add a_2 1) ?_
      refine va_put (D := D) (ci := 6) (v := .int (nI (a_2 + 1))) (ty := .int) (C := RX6) (T := TX6) (N := 5) hx hb hts hin6 tyX6 tyX6_ok nmX6 hown hK hP hD hS ktp e_26 rfl 3 (by decide) (hts (.fieldLink RX6 19 "HoneyHouse$Tape" "end" "I") (List.mem_of_getElem? (i := 1) rfl)) (fun _ h9 => h9) rfl (tyX6_ok 3 (by decide)) rfl rfl (Nat.le_of_ble_eq_true rfl) dX6_advance_63 (fun H locs hP hD hS => ?_)
      have hP : va_P D vwCl (ws_24.set ktp (tp, .inr (6, [.int (nI tl), .int (nI k_22), .int (nI a_2), .int (nI (a_2 + 1)), .ref bb]))) H := hP
      have hD : va_D A (ws_24.set ktp (tp, .inr (6, [.int (nI tl), .int (nI k_22), .int (nI a_2), .int (nI (a_2 + 1)), .ref bb]))) := hD
      have hm_32 : sm [6] ws_24 (ws_24.set ktp (tp, .inr (6, [.int (nI tl), .int (nI k_22), .int (nI a_2), .int (nI (a_2 + 1)), .ref bb]))) := sm.flds e_26 (smF.c (smV.rf _) (smF.c (smV.rf _) (smF.c (smV.rf _) (smF.c (smV.i _ _) (smF.c (smV.rf _) (rfl)))))) (List.mem_singleton.mpr rfl)
      have e_33 : (ws_24.set ktp (tp, .inr (6, [.int (nI tl), .int (nI k_22), .int (nI a_2), .int (nI (a_2 + 1)), .ref bb])))[ktp]? = some (tp, .inr (6, [.int (nI tl), .int (nI k_22), .int (nI a_2), .int (nI (a_2 + 1)), .ref bb])) := wset_self e_26
      generalize ws_24.set ktp (tp, .inr (6, [.int (nI tl), .int (nI k_22), .int (nI a_2), .int (nI (a_2 + 1)), .ref bb])) = ws_31 at hP hD hm_32 e_33
      obtain ⟨f_35, e_34⟩ := hm_32.arrI e_27
      have hsm := hsm.tr (hm_32.mono (by decide))
      have hlp_6 := hlp_6.tr (hm_32.mono (by decide))
      refine lv_aload_n hx hb dX6_advance_66 rfl (lv_at hl 1 rfl) ?_
      refine va_get (D := D) (ci := 6) (v := .int (nI k_22)) (C := RX6) (T := TX6) (N := 5) hx hb hts hin6 hown hK hP ktp e_33 rfl 1 (by decide) (hts (.fieldLink RX6 35 "HoneyHouse$Tape" "kind" "I") (List.mem_of_getElem? (i := 4) rfl)) (fun _ h9 => h9) rfl dX6_advance_67 ?_
      refine lv_iconst (v := 1) hx hb dX6_advance_70 (by decide) ?_
      refine lv_icmp_eq (tgt := 82) hx hb dX6_advance_71 (by decide) (fun c_36 => ?_) (fun c_36 => ?_)
      · have d_37 := n_eq (a := k_22) (b := 1) (by omega) (by omega) c_36
        refine lv_iconst (v := 1) hx hb dX6_advance_82 (by decide) ?_
        refine lv_goto (tgt := 87) hx hb dX6_advance_83 (by decide) ?_
        refine lv_istore_n (lv' := [(2, .int 1), (1, .int (nI a_2)), (0, .ref tp)]) hx hb dX6_advance_87 rfl hl (by decide) rfl (fun ls hl => ?_)
        refine lp_V (nL := 3) (σ := Nat) (lv := fun x9 => [(2, .int 1), (0, .ref tp)]) (μ := fun x9 => tl - x9) (J := fun x9 ws9 => sm [6] ws_31 ws9 ∧ (ws9[ktp]? = some (tp, .inr (6, [.int (nI tl), .int (nI k_22), .int (nI a_2), .int (nI x9), .ref bb]))) ∧ (a_2 ≤ x9 ∧ x9 ≤ tl)) (fun x9 ws_41 H locs ls hj hP hD hS hl ih_38 => ?_) (a_2 + 1) ws_31 _ _ ls ⟨sm.rf _, e_33, (show a_2 ≤ (a_2 + 1) ∧ (a_2 + 1) ≤ tl from by omega)⟩ hP hD hS (lv_sub hl [0, 2] rfl)
        obtain ⟨e9_39, hx9⟩ : ∃ y9, y9 = x9 := ⟨_, rfl⟩
        subst hx9
        have hj : sm [6] ws_31 ws_41 ∧ (ws_41[ktp]? = some (tp, .inr (6, [.int (nI tl), .int (nI k_22), .int (nI a_2), .int (nI e9_39), .ref bb]))) ∧ (a_2 ≤ e9_39 ∧ e9_39 ≤ tl) := hj
        obtain ⟨hm_42, e_44, he_40⟩ := hj
        obtain ⟨g_46, e_45, h_47⟩ := hm_42.obj e_33
        obtain ⟨z_48, z_49, z_50, z_51, rfl⟩ := smX6 h_47
        obtain ⟨f_53, e_52⟩ := hm_42.arrI e_34
        have hsm := hsm.tr (hm_42.mono (by decide))
        have hlp_6 := hlp_6.tr (hm_42.mono (by decide))
        have hlp_43 := hm_42
        have hl : lv_has ls 3 [(2, .int 1), (0, .ref tp)] := hl
        refine lv_iload_n hx hb dX6_advance_88 rfl (lv_at hl 0 rfl) ?_
        refine lv_if_eq (tgt := 134) hx hb dX6_advance_89 (by decide) (fun c_54 => absurd c_54 (by decide)) (fun c_54 => ?_)
        refine lv_aload_n hx hb dX6_advance_92 rfl (lv_at hl 1 rfl) ?_
        refine va_get (D := D) (ci := 6) (v := .int (nI e9_39)) (C := RX6) (T := TX6) (N := 5) hx hb hts hin6 hown hK hP ktp e_44 rfl 3 (by decide) (hts (.fieldLink RX6 19 "HoneyHouse$Tape" "end" "I") (List.mem_of_getElem? (i := 1) rfl)) (fun _ h9 => h9) rfl dX6_advance_93 ?_
        refine lv_aload_n hx hb dX6_advance_96 rfl (lv_at hl 1 rfl) ?_
        refine va_get (D := D) (ci := 6) (v := .int (nI tl)) (C := RX6) (T := TX6) (N := 5) hx hb hts hin6 hown hK hP ktp e_44 rfl 0 (by decide) (hts (.fieldLink RX6 15 "HoneyHouse$Tape" "length" "I") (List.mem_of_getElem? (i := 2) rfl)) (fun _ h9 => h9) rfl dX6_advance_97 ?_
        refine lv_icmp_ge (tgt := 134) hx hb dX6_advance_100 (by decide) (fun c_55 => ?_) (fun c_55 => ?_)
        · have d_56 := n_le (a := tl) (b := e9_39) (by omega) (by omega) c_55
          exact W.vret hx hb hr (fun t ht hW => ⟨⟨(), rfl, trivial, ws_41, tys, hsm, htx, by rw [ht]; exact hP, va_K.moved hW.alike hK, hD, ⟨k_22, a_2, e9_39, by omega, by omega, by omega, e_44⟩⟩, hS.F ht⟩) hS.2.2 dX6_advance_134
        have d_57 := n_nle (a := tl) (b := e9_39) (by omega) (by omega) c_55
        refine lv_aload_n hx hb dX6_advance_103 rfl (lv_at hl 1 rfl) ?_
        refine lv_aload_n hx hb dX6_advance_104 rfl (lv_at hl 1 rfl) ?_
        refine va_get (D := D) (ci := 6) (v := .int (nI e9_39)) (C := RX6) (T := TX6) (N := 5) hx hb hts hin6 hown hK hP ktp e_44 rfl 3 (by decide) (hts (.fieldLink RX6 19 "HoneyHouse$Tape" "end" "I") (List.mem_of_getElem? (i := 1) rfl)) (fun _ h9 => h9) rfl dX6_advance_105 ?_
        refine vp_callSi (W.runV (As := [.int (nI e9_39)]) (rest := []) ⟨hx, hb, hml, hown, hts⟩ (s_byteAt l D ws_41 tys tp ktp tl (nI k_22) (nI a_2) (nI e9_39) bb kbb cbb tbb f_53 (nI e9_39) e_44 e_52 ubb) (cwV 1 hts gX6_advance_X6_byteAt rfl rfl rfl (by decide +kernel) ⟨Nat.le_of_ble_eq_true rfl, Nat.le_of_ble_eq_true rfl⟩) ⟨fun a U g mk q => ⟨q.1, q.2.1, va_K.moved (u := U) (U := U.calling g mk a) (Vm.Alike.refl U.vm) q.2.2⟩, va_recv hK hP (ci := 6) (q0 := ktp) rfl e_44, fun U hU hW => ⟨rfl, by rw [hU]; exact hP, va_K.moved hW.alike hK⟩⟩ rfl rfl hl.1 rfl (lv_room (Nat.le_of_ble_eq_true rfl)) dX6_advance_108 ⟨Nat.le_of_ble_eq_true rfl, Nat.le_of_ble_eq_true rfl⟩) (fun r_58 k_59 => ?_)
        refine vp_callSi (W.runS (As := [.int r_58]) (rest := []) ⟨hx, hb, hml, hown, hts⟩ (s_kindOf l r_58) (va_cwS 1 hts gX6_advance_X6_kindOf rfl rfl rfl (by decide +kernel) ⟨Nat.le_of_ble_eq_true rfl, Nat.le_of_ble_eq_true rfl⟩) ⟨fun a U g mk q => q, fun U hU hW => ⟨rfl, trivial⟩⟩ rfl rfl hl.1 rfl (lv_room (Nat.le_of_ble_eq_true rfl)) dX6_advance_111 ⟨Nat.le_of_ble_eq_true rfl, Nat.le_of_ble_eq_true rfl⟩) (fun r_60 k_61 => ?_)
        obtain ⟨hk_62, k_63, hk_64, rfl⟩ := k_61
        refine lv_aload_n hx hb dX6_advance_114 rfl (lv_at hl 1 rfl) ?_
        refine va_get (D := D) (ci := 6) (v := .int (nI k_22)) (C := RX6) (T := TX6) (N := 5) hx hb hts hin6 hown hK hP ktp e_44 rfl 1 (by decide) (hts (.fieldLink RX6 35 "HoneyHouse$Tape" "kind" "I") (List.mem_of_getElem? (i := 4) rfl)) (fun _ h9 => h9) rfl dX6_advance_115 ?_
        refine lv_icmp_ne (tgt := 134) hx hb dX6_advance_118 (by decide) (fun c_65 => ?_) (fun c_65 => ?_)
        · have d_66 := n_ne (a := k_63) (b := k_22) (by omega) (by omega) c_65
          exact W.vret hx hb hr (fun t ht hW => ⟨⟨(), rfl, trivial, ws_41, tys, hsm, htx, by rw [ht]; exact hP, va_K.moved hW.alike hK, hD, ⟨k_22, a_2, e9_39, by omega, by omega, by omega, e_44⟩⟩, hS.F ht⟩) hS.2.2 dX6_advance_134
        have d_67 := n_eq (a := k_63) (b := k_22) (by omega) (by omega) c_65
        refine lv_aload_n hx hb dX6_advance_121 rfl (lv_at hl 1 rfl) ?_
        refine lv_dup hx hb dX6_advance_122 rfl ?_
        refine va_get (D := D) (ci := 6) (v := .int (nI e9_39)) (C := RX6) (T := TX6) (N := 5) hx hb hts hin6 hown hK hP ktp e_44 rfl 3 (by decide) (hts (.fieldLink RX6 19 "HoneyHouse$Tape" "end" "I") (List.mem_of_getElem? (i := 1) rfl)) (fun _ h9 => h9) rfl dX6_advance_123 ?_
        refine lv_iconst (v := 1) hx hb dX6_advance_126 (by decide) ?_
        refine lv_iadd hx hb dX6_advance_127 ?_
        refine tp_i (y := nI (e9_39 + 1)) (nI_add e9_39 1) ?_
        refine va_put (D := D) (ci := 6) (v := .int (nI (e9_39 + 1))) (ty := .int) (C := RX6) (T := TX6) (N := 5) hx hb hts hin6 tyX6 tyX6_ok nmX6 hown hK hP hD hS ktp e_44 rfl 3 (by decide) (hts (.fieldLink RX6 19 "HoneyHouse$Tape" "end" "I") (List.mem_of_getElem? (i := 1) rfl)) (fun _ h9 => h9) rfl (tyX6_ok 3 (by decide)) rfl rfl (Nat.le_of_ble_eq_true rfl) dX6_advance_128 (fun H locs hP hD hS => ?_)
        have hP : va_P D vwCl (ws_41.set ktp (tp, .inr (6, [.int (nI tl), .int (nI k_22), .int (nI a_2), .int (nI (e9_39 + 1)), .ref bb]))) H := hP
        have hD : va_D A (ws_41.set ktp (tp, .inr (6, [.int (nI tl), .int (nI k_22), .int (nI a_2), .int (nI (e9_39 + 1)), .ref bb]))) := hD
        have hm_69 : sm [6] ws_41 (ws_41.set ktp (tp, .inr (6, [.int (nI tl), .int (nI k_22), .int (nI a_2), .int (nI (e9_39 + 1)), .ref bb]))) := sm.flds e_44 (smF.c (smV.rf _) (smF.c (smV.rf _) (smF.c (smV.rf _) (smF.c (smV.i _ _) (smF.c (smV.rf _) (rfl)))))) (List.mem_singleton.mpr rfl)
        have e_70 : (ws_41.set ktp (tp, .inr (6, [.int (nI tl), .int (nI k_22), .int (nI a_2), .int (nI (e9_39 + 1)), .ref bb])))[ktp]? = some (tp, .inr (6, [.int (nI tl), .int (nI k_22), .int (nI a_2), .int (nI (e9_39 + 1)), .ref bb])) := wset_self e_44
        generalize ws_41.set ktp (tp, .inr (6, [.int (nI tl), .int (nI k_22), .int (nI a_2), .int (nI (e9_39 + 1)), .ref bb])) = ws_68 at hP hD hm_69 e_70
        obtain ⟨f_72, e_71⟩ := hm_69.arrI e_52
        have hsm := hsm.tr (hm_69.mono (by decide))
        have hlp_6 := hlp_6.tr (hm_69.mono (by decide))
        have hlp_43 := hlp_43.tr (hm_69.mono (by decide))
        refine lv_goto (tgt := 88) hx hb dX6_advance_131 (by decide) ?_
        exact ih_38 (e9_39 + 1) ws_68 _ _ ls (by show tl - (e9_39 + 1) < tl - e9_39; omega) ⟨hlp_43, e_70, (show a_2 ≤ (e9_39 + 1) ∧ (e9_39 + 1) ≤ tl from by omega)⟩ hP hD hS (lv_sub hl [0, 1] rfl)
      have d_73 := n_ne (a := k_22) (b := 1) (by omega) (by omega) c_36
      refine lv_aload_n hx hb dX6_advance_74 rfl (lv_at hl 1 rfl) ?_
      refine va_get (D := D) (ci := 6) (v := .int (nI k_22)) (C := RX6) (T := TX6) (N := 5) hx hb hts hin6 hown hK hP ktp e_33 rfl 1 (by decide) (hts (.fieldLink RX6 35 "HoneyHouse$Tape" "kind" "I") (List.mem_of_getElem? (i := 4) rfl)) (fun _ h9 => h9) rfl dX6_advance_75 ?_
      refine lv_iconst (v := 2) hx hb dX6_advance_78 (by decide) ?_
      refine lv_icmp_ne (tgt := 86) hx hb dX6_advance_79 (by decide) (fun c_74 => ?_) (fun c_74 => ?_)
      · have d_75 := n_ne (a := k_22) (b := 2) (by omega) (by omega) c_74
        refine lv_iconst (v := 0) hx hb dX6_advance_86 (by decide) ?_
        refine lv_istore_n (lv' := [(2, .int 0), (1, .int (nI a_2)), (0, .ref tp)]) hx hb dX6_advance_87 rfl hl (by decide) rfl (fun ls hl => ?_)
        refine lp_V (nL := 3) (σ := Nat) (lv := fun x9 => [(2, .int 0), (0, .ref tp)]) (μ := fun x9 => tl - x9) (J := fun x9 ws9 => sm [6] ws_31 ws9 ∧ (ws9[ktp]? = some (tp, .inr (6, [.int (nI tl), .int (nI k_22), .int (nI a_2), .int (nI x9), .ref bb]))) ∧ (a_2 ≤ x9 ∧ x9 ≤ tl)) (fun x9 ws_79 H locs ls hj hP hD hS hl ih_76 => ?_) (a_2 + 1) ws_31 _ _ ls ⟨sm.rf _, e_33, (show a_2 ≤ (a_2 + 1) ∧ (a_2 + 1) ≤ tl from by omega)⟩ hP hD hS (lv_sub hl [0, 2] rfl)
        obtain ⟨e9_77, hx9⟩ : ∃ y9, y9 = x9 := ⟨_, rfl⟩
        subst hx9
        have hj : sm [6] ws_31 ws_79 ∧ (ws_79[ktp]? = some (tp, .inr (6, [.int (nI tl), .int (nI k_22), .int (nI a_2), .int (nI e9_77), .ref bb]))) ∧ (a_2 ≤ e9_77 ∧ e9_77 ≤ tl) := hj
        obtain ⟨hm_80, e_82, he_78⟩ := hj
        obtain ⟨g_84, e_83, h_85⟩ := hm_80.obj e_33
        obtain ⟨z_86, z_87, z_88, z_89, rfl⟩ := smX6 h_85
        obtain ⟨f_91, e_90⟩ := hm_80.arrI e_34
        have hsm := hsm.tr (hm_80.mono (by decide))
        have hlp_6 := hlp_6.tr (hm_80.mono (by decide))
        have hlp_81 := hm_80
        have hl : lv_has ls 3 [(2, .int 0), (0, .ref tp)] := hl
        refine lv_iload_n hx hb dX6_advance_88 rfl (lv_at hl 0 rfl) ?_
        refine lv_if_eq (tgt := 134) hx hb dX6_advance_89 (by decide) (fun c_92 => ?_) (fun c_92 => absurd (by decide) c_92)
        exact W.vret hx hb hr (fun t ht hW => ⟨⟨(), rfl, trivial, ws_79, tys, hsm, htx, by rw [ht]; exact hP, va_K.moved hW.alike hK, hD, ⟨k_22, a_2, e9_77, by omega, by omega, by omega, e_82⟩⟩, hS.F ht⟩) hS.2.2 dX6_advance_134
      have d_93 := n_eq (a := k_22) (b := 2) (by omega) (by omega) c_74
      refine lv_iconst (v := 1) hx hb dX6_advance_82 (by decide) ?_
      refine lv_goto (tgt := 87) hx hb dX6_advance_83 (by decide) ?_
      refine lv_istore_n (lv' := [(2, .int 1), (1, .int (nI a_2)), (0, .ref tp)]) hx hb dX6_advance_87 rfl hl (by decide) rfl (fun ls hl => ?_)
      refine lp_V (nL := 3) (σ := Nat) (lv := fun x9 => [(2, .int 1), (0, .ref tp)]) (μ := fun x9 => tl - x9) (J := fun x9 ws9 => sm [6] ws_31 ws9 ∧ (ws9[ktp]? = some (tp, .inr (6, [.int (nI tl), .int (nI k_22), .int (nI a_2), .int (nI x9), .ref bb]))) ∧ (a_2 ≤ x9 ∧ x9 ≤ tl)) (fun x9 ws_97 H locs ls hj hP hD hS hl ih_94 => ?_) (a_2 + 1) ws_31 _ _ ls ⟨sm.rf _, e_33, (show a_2 ≤ (a_2 + 1) ∧ (a_2 + 1) ≤ tl from by omega)⟩ hP hD hS (lv_sub hl [0, 2] rfl)
      obtain ⟨e9_95, hx9⟩ : ∃ y9, y9 = x9 := ⟨_, rfl⟩
      subst hx9
      have hj : sm [6] ws_31 ws_97 ∧ (ws_97[ktp]? = some (tp, .inr (6, [.int (nI tl), .int (nI k_22), .int (nI a_2), .int (nI e9_95), .ref bb]))) ∧ (a_2 ≤ e9_95 ∧ e9_95 ≤ tl) := hj
      obtain ⟨hm_98, e_100, he_96⟩ := hj
      obtain ⟨g_102, e_101, h_103⟩ := hm_98.obj e_33
      obtain ⟨z_104, z_105, z_106, z_107, rfl⟩ := smX6 h_103
      obtain ⟨f_109, e_108⟩ := hm_98.arrI e_34
      have hsm := hsm.tr (hm_98.mono (by decide))
      have hlp_6 := hlp_6.tr (hm_98.mono (by decide))
      have hlp_99 := hm_98
      have hl : lv_has ls 3 [(2, .int 1), (0, .ref tp)] := hl
      refine lv_iload_n hx hb dX6_advance_88 rfl (lv_at hl 0 rfl) ?_
      refine lv_if_eq (tgt := 134) hx hb dX6_advance_89 (by decide) (fun c_110 => absurd c_110 (by decide)) (fun c_110 => ?_)
      refine lv_aload_n hx hb dX6_advance_92 rfl (lv_at hl 1 rfl) ?_
      refine va_get (D := D) (ci := 6) (v := .int (nI e9_95)) (C := RX6) (T := TX6) (N := 5) hx hb hts hin6 hown hK hP ktp e_100 rfl 3 (by decide) (hts (.fieldLink RX6 19 "HoneyHouse$Tape" "end" "I") (List.mem_of_getElem? (i := 1) rfl)) (fun _ h9 => h9) rfl dX6_advance_93 ?_
      refine lv_aload_n hx hb dX6_advance_96 rfl (lv_at hl 1 rfl) ?_
      refine va_get (D := D) (ci := 6) (v := .int (nI tl)) (C := RX6) (T := TX6) (N := 5) hx hb hts hin6 hown hK hP ktp e_100 rfl 0 (by decide) (hts (.fieldLink RX6 15 "HoneyHouse$Tape" "length" "I") (List.mem_of_getElem? (i := 2) rfl)) (fun _ h9 => h9) rfl dX6_advance_97 ?_
      refine lv_icmp_ge (tgt := 134) hx hb dX6_advance_100 (by decide) (fun c_111 => ?_) (fun c_111 => ?_)
      · have d_112 := n_le (a := tl) (b := e9_95) (by omega) (by omega) c_111
        exact W.vret hx hb hr (fun t ht hW => ⟨⟨(), rfl, trivial, ws_97, tys, hsm, htx, by rw [ht]; exact hP, va_K.moved hW.alike hK, hD, ⟨k_22, a_2, e9_95, by omega, by omega, by omega, e_100⟩⟩, hS.F ht⟩) hS.2.2 dX6_advance_134
      have d_113 := n_nle (a := tl) (b := e9_95) (by omega) (by omega) c_111
      refine lv_aload_n hx hb dX6_advance_103 rfl (lv_at hl 1 rfl) ?_
      refine lv_aload_n hx hb dX6_advance_104 rfl (lv_at hl 1 rfl) ?_
      refine va_get (D := D) (ci := 6) (v := .int (nI e9_95)) (C := RX6) (T := TX6) (N := 5) hx hb hts hin6 hown hK hP ktp e_100 rfl 3 (by decide) (hts (.fieldLink RX6 19 "HoneyHouse$Tape" "end" "I") (List.mem_of_getElem? (i := 1) rfl)) (fun _ h9 => h9) rfl dX6_advance_105 ?_
      refine vp_callSi (W.runV (As := [.int (nI e9_95)]) (rest := []) ⟨hx, hb, hml, hown, hts⟩ (s_byteAt l D ws_97 tys tp ktp tl (nI k_22) (nI a_2) (nI e9_95) bb kbb cbb tbb f_109 (nI e9_95) e_100 e_108 ubb) (cwV 1 hts gX6_advance_X6_byteAt rfl rfl rfl (by decide +kernel) ⟨Nat.le_of_ble_eq_true rfl, Nat.le_of_ble_eq_true rfl⟩) ⟨fun a U g mk q => ⟨q.1, q.2.1, va_K.moved (u := U) (U := U.calling g mk a) (Vm.Alike.refl U.vm) q.2.2⟩, va_recv hK hP (ci := 6) (q0 := ktp) rfl e_100, fun U hU hW => ⟨rfl, by rw [hU]; exact hP, va_K.moved hW.alike hK⟩⟩ rfl rfl hl.1 rfl (lv_room (Nat.le_of_ble_eq_true rfl)) dX6_advance_108 ⟨Nat.le_of_ble_eq_true rfl, Nat.le_of_ble_eq_true rfl⟩) (fun r_114 k_115 => ?_)
      refine vp_callSi (W.runS (As := [.int r_114]) (rest := []) ⟨hx, hb, hml, hown, hts⟩ (s_kindOf l r_114) (va_cwS 1 hts gX6_advance_X6_kindOf rfl rfl rfl (by decide +kernel) ⟨Nat.le_of_ble_eq_true rfl, Nat.le_of_ble_eq_true rfl⟩) ⟨fun a U g mk q => q, fun U hU hW => ⟨rfl, trivial⟩⟩ rfl rfl hl.1 rfl (lv_room (Nat.le_of_ble_eq_true rfl)) dX6_advance_111 ⟨Nat.le_of_ble_eq_true rfl, Nat.le_of_ble_eq_true rfl⟩) (fun r_116 k_117 => ?_)
      obtain ⟨hk_118, k_119, hk_120, rfl⟩ := k_117
      refine lv_aload_n hx hb dX6_advance_114 rfl (lv_at hl 1 rfl) ?_
      refine va_get (D := D) (ci := 6) (v := .int (nI k_22)) (C := RX6) (T := TX6) (N := 5) hx hb hts hin6 hown hK hP ktp e_100 rfl 1 (by decide) (hts (.fieldLink RX6 35 "HoneyHouse$Tape" "kind" "I") (List.mem_of_getElem? (i := 4) rfl)) (fun _ h9 => h9) rfl dX6_advance_115 ?_
      refine lv_icmp_ne (tgt := 134) hx hb dX6_advance_118 (by decide) (fun c_121 => ?_) (fun c_121 => ?_)
      · have d_122 := n_ne (a := k_119) (b := k_22) (by omega) (by omega) c_121
        exact W.vret hx hb hr (fun t ht hW => ⟨⟨(), rfl, trivial, ws_97, tys, hsm, htx, by rw [ht]; exact hP, va_K.moved hW.alike hK, hD, ⟨k_22, a_2, e9_95, by omega, by omega, by omega, e_100⟩⟩, hS.F ht⟩) hS.2.2 dX6_advance_134
      have d_123 := n_eq (a := k_119) (b := k_22) (by omega) (by omega) c_121
      refine lv_aload_n hx hb dX6_advance_121 rfl (lv_at hl 1 rfl) ?_
      refine lv_dup hx hb dX6_advance_122 rfl ?_
      refine va_get (D := D) (ci := 6) (v := .int (nI e9_95)) (C := RX6) (T := TX6) (N := 5) hx hb hts hin6 hown hK hP ktp e_100 rfl 3 (by decide) (hts (.fieldLink RX6 19 "HoneyHouse$Tape" "end" "I") (List.mem_of_getElem? (i := 1) rfl)) (fun _ h9 => h9) rfl dX6_advance_123 ?_
      refine lv_iconst (v := 1) hx hb dX6_advance_126 (by decide) ?_
      refine lv_iadd hx hb dX6_advance_127 ?_
      refine tp_i (y := nI (e9_95 + 1)) (nI_add e9_95 1) ?_
      refine va_put (D := D) (ci := 6) (v := .int (nI (e9_95 + 1))) (ty := .int) (C := RX6) (T := TX6) (N := 5) hx hb hts hin6 tyX6 tyX6_ok nmX6 hown hK hP hD hS ktp e_100 rfl 3 (by decide) (hts (.fieldLink RX6 19 "HoneyHouse$Tape" "end" "I") (List.mem_of_getElem? (i := 1) rfl)) (fun _ h9 => h9) rfl (tyX6_ok 3 (by decide)) rfl rfl (Nat.le_of_ble_eq_true rfl) dX6_advance_128 (fun H locs hP hD hS => ?_)
      have hP : va_P D vwCl (ws_97.set ktp (tp, .inr (6, [.int (nI tl), .int (nI k_22), .int (nI a_2), .int (nI (e9_95 + 1)), .ref bb]))) H := hP
      have hD : va_D A (ws_97.set ktp (tp, .inr (6, [.int (nI tl), .int (nI k_22), .int (nI a_2), .int (nI (e9_95 + 1)), .ref bb]))) := hD
      have hm_125 : sm [6] ws_97 (ws_97.set ktp (tp, .inr (6, [.int (nI tl), .int (nI k_22), .int (nI a_2), .int (nI (e9_95 + 1)), .ref bb]))) := sm.flds e_100 (smF.c (smV.rf _) (smF.c (smV.rf _) (smF.c (smV.rf _) (smF.c (smV.i _ _) (smF.c (smV.rf _) (rfl)))))) (List.mem_singleton.mpr rfl)
      have e_126 : (ws_97.set ktp (tp, .inr (6, [.int (nI tl), .int (nI k_22), .int (nI a_2), .int (nI (e9_95 + 1)), .ref bb])))[ktp]? = some (tp, .inr (6, [.int (nI tl), .int (nI k_22), .int (nI a_2), .int (nI (e9_95 + 1)), .ref bb])) := wset_self e_100
      generalize ws_97.set ktp (tp, .inr (6, [.int (nI tl), .int (nI k_22), .int (nI a_2), .int (nI (e9_95 + 1)), .ref bb])) = ws_124 at hP hD hm_125 e_126
      obtain ⟨f_128, e_127⟩ := hm_125.arrI e_108
      have hsm := hsm.tr (hm_125.mono (by decide))
      have hlp_6 := hlp_6.tr (hm_125.mono (by decide))
      have hlp_99 := hlp_99.tr (hm_125.mono (by decide))
      refine lv_goto (tgt := 88) hx hb dX6_advance_131 (by decide) ?_
      exact ih_94 (e9_95 + 1) ws_124 _ _ ls (by show tl - (e9_95 + 1) < tl - e9_95; omega) ⟨hlp_99, e_126, (show a_2 ≤ (e9_95 + 1) ∧ (e9_95 + 1) ≤ tl from by omega)⟩ hP hD hS (lv_sub hl [0, 1] rfl)
    have d_129 := n_eq (a := k_22) (b := 0) (by omega) (by omega) c_29
    refine lv_iload_n hx hb dX6_advance_56 rfl (lv_at hl 0 rfl) ?_
    refine lv_goto (tgt := 63) hx hb dX6_advance_57 (by decide) ?_
    refine va_put (D := D) (ci := 6) (v := .int (nI a_2)) (ty := .int) (C := RX6) (T := TX6) (N := 5) hx hb hts hin6 tyX6 tyX6_ok nmX6 hown hK hP hD hS ktp e_26 rfl 3 (by decide) (hts (.fieldLink RX6 19 "HoneyHouse$Tape" "end" "I") (List.mem_of_getElem? (i := 1) rfl)) (fun _ h9 => h9) rfl (tyX6_ok 3 (by decide)) rfl rfl (Nat.le_of_ble_eq_true rfl) dX6_advance_63 (fun H locs hP hD hS => ?_)
    have hP : va_P D vwCl (ws_24.set ktp (tp, .inr (6, [.int (nI tl), .int (nI k_22), .int (nI a_2), .int (nI a_2), .ref bb]))) H := hP
    have hD : va_D A (ws_24.set ktp (tp, .inr (6, [.int (nI tl), .int (nI k_22), .int (nI a_2), .int (nI a_2), .ref bb]))) := hD
    have hm_131 : sm [6] ws_24 (ws_24.set ktp (tp, .inr (6, [.int (nI tl), .int (nI k_22), .int (nI a_2), .int (nI a_2), .ref bb]))) := sm.flds e_26 (smF.c (smV.rf _) (smF.c (smV.rf _) (smF.c (smV.rf _) (smF.c (smV.i _ _) (smF.c (smV.rf _) (rfl)))))) (List.mem_singleton.mpr rfl)
    have e_132 : (ws_24.set ktp (tp, .inr (6, [.int (nI tl), .int (nI k_22), .int (nI a_2), .int (nI a_2), .ref bb])))[ktp]? = some (tp, .inr (6, [.int (nI tl), .int (nI k_22), .int (nI a_2), .int (nI a_2), .ref bb])) := wset_self e_26
    generalize ws_24.set ktp (tp, .inr (6, [.int (nI tl), .int (nI k_22), .int (nI a_2), .int (nI a_2), .ref bb])) = ws_130 at hP hD hm_131 e_132
    obtain ⟨f_134, e_133⟩ := hm_131.arrI e_27
    have hsm := hsm.tr (hm_131.mono (by decide))
    have hlp_6 := hlp_6.tr (hm_131.mono (by decide))
    refine lv_aload_n hx hb dX6_advance_66 rfl (lv_at hl 1 rfl) ?_
    refine va_get (D := D) (ci := 6) (v := .int (nI k_22)) (C := RX6) (T := TX6) (N := 5) hx hb hts hin6 hown hK hP ktp e_132 rfl 1 (by decide) (hts (.fieldLink RX6 35 "HoneyHouse$Tape" "kind" "I") (List.mem_of_getElem? (i := 4) rfl)) (fun _ h9 => h9) rfl dX6_advance_67 ?_
    refine lv_iconst (v := 1) hx hb dX6_advance_70 (by decide) ?_
    refine lv_icmp_eq (tgt := 82) hx hb dX6_advance_71 (by decide) (fun c_135 => ?_) (fun c_135 => ?_)
    · have d_136 := n_eq (a := k_22) (b := 1) (by omega) (by omega) c_135
      refine lv_iconst (v := 1) hx hb dX6_advance_82 (by decide) ?_
      refine lv_goto (tgt := 87) hx hb dX6_advance_83 (by decide) ?_
      refine lv_istore_n (lv' := [(2, .int 1), (1, .int (nI a_2)), (0, .ref tp)]) hx hb dX6_advance_87 rfl hl (by decide) rfl (fun ls hl => ?_)
      refine lp_V (nL := 3) (σ := Nat) (lv := fun x9 => [(2, .int 1), (0, .ref tp)]) (μ := fun x9 => tl - x9) (J := fun x9 ws9 => sm [6] ws_130 ws9 ∧ (ws9[ktp]? = some (tp, .inr (6, [.int (nI tl), .int (nI k_22), .int (nI a_2), .int (nI x9), .ref bb]))) ∧ (a_2 ≤ x9 ∧ x9 ≤ tl)) (fun x9 ws_140 H locs ls hj hP hD hS hl ih_137 => ?_) a_2 ws_130 _ _ ls ⟨sm.rf _, e_132, (show a_2 ≤ a_2 ∧ a_2 ≤ tl from by omega)⟩ hP hD hS (lv_sub hl [0, 2] rfl)
      obtain ⟨e9_138, hx9⟩ : ∃ y9, y9 = x9 := ⟨_, rfl⟩
      subst hx9
      have hj : sm [6] ws_130 ws_140 ∧ (ws_140[ktp]? = some (tp, .inr (6, [.int (nI tl), .int (nI k_22), .int (nI a_2), .int (nI e9_138), .ref bb]))) ∧ (a_2 ≤ e9_138 ∧ e9_138 ≤ tl) := hj
      obtain ⟨hm_141, e_143, he_139⟩ := hj
      obtain ⟨g_145, e_144, h_146⟩ := hm_141.obj e_132
      obtain ⟨z_147, z_148, z_149, z_150, rfl⟩ := smX6 h_146
      obtain ⟨f_152, e_151⟩ := hm_141.arrI e_133
      have hsm := hsm.tr (hm_141.mono (by decide))
      have hlp_6 := hlp_6.tr (hm_141.mono (by decide))
      have hlp_142 := hm_141
      have hl : lv_has ls 3 [(2, .int 1), (0, .ref tp)] := hl
      refine lv_iload_n hx hb dX6_advance_88 rfl (lv_at hl 0 rfl) ?_
      refine lv_if_eq (tgt := 134) hx hb dX6_advance_89 (by decide) (fun c_153 => absurd c_153 (by decide)) (fun c_153 => ?_)
      refine lv_aload_n hx hb dX6_advance_92 rfl (lv_at hl 1 rfl) ?_
      refine va_get (D := D) (ci := 6) (v := .int (nI e9_138)) (C := RX6) (T := TX6) (N := 5) hx hb hts hin6 hown hK hP ktp e_143 rfl 3 (by decide) (hts (.fieldLink RX6 19 "HoneyHouse$Tape" "end" "I") (List.mem_of_getElem? (i := 1) rfl)) (fun _ h9 => h9) rfl dX6_advance_93 ?_
      refine lv_aload_n hx hb dX6_advance_96 rfl (lv_at hl 1 rfl) ?_
      refine va_get (D := D) (ci := 6) (v := .int (nI tl)) (C := RX6) (T := TX6) (N := 5) hx hb hts hin6 hown hK hP ktp e_143 rfl 0 (by decide) (hts (.fieldLink RX6 15 "HoneyHouse$Tape" "length" "I") (List.mem_of_getElem? (i := 2) rfl)) (fun _ h9 => h9) rfl dX6_advance_97 ?_
      refine lv_icmp_ge (tgt := 134) hx hb dX6_advance_100 (by decide) (fun c_154 => ?_) (fun c_154 => ?_)
      · have d_155 := n_le (a := tl) (b := e9_138) (by omega) (by omega) c_154
        exact W.vret hx hb hr (fun t ht hW => ⟨⟨(), rfl, trivial, ws_140, tys, hsm, htx, by rw [ht]; exact hP, va_K.moved hW.alike hK, hD, ⟨k_22, a_2, e9_138, by omega, by omega, by omega, e_143⟩⟩, hS.F ht⟩) hS.2.2 dX6_advance_134
      have d_156 := n_nle (a := tl) (b := e9_138) (by omega) (by omega) c_154
      refine lv_aload_n hx hb dX6_advance_103 rfl (lv_at hl 1 rfl) ?_
      refine lv_aload_n hx hb dX6_advance_104 rfl (lv_at hl 1 rfl) ?_
      refine va_get (D := D) (ci := 6) (v := .int (nI e9_138)) (C := RX6) (T := TX6) (N := 5) hx hb hts hin6 hown hK hP ktp e_143 rfl 3 (by decide) (hts (.fieldLink RX6 19 "HoneyHouse$Tape" "end" "I") (List.mem_of_getElem? (i := 1) rfl)) (fun _ h9 => h9) rfl dX6_advance_105 ?_
      refine vp_callSi (W.runV (As := [.int (nI e9_138)]) (rest := []) ⟨hx, hb, hml, hown, hts⟩ (s_byteAt l D ws_140 tys tp ktp tl (nI k_22) (nI a_2) (nI e9_138) bb kbb cbb tbb f_152 (nI e9_138) e_143 e_151 ubb) (cwV 1 hts gX6_advance_X6_byteAt rfl rfl rfl (by decide +kernel) ⟨Nat.le_of_ble_eq_true rfl, Nat.le_of_ble_eq_true rfl⟩) ⟨fun a U g mk q => ⟨q.1, q.2.1, va_K.moved (u := U) (U := U.calling g mk a) (Vm.Alike.refl U.vm) q.2.2⟩, va_recv hK hP (ci := 6) (q0 := ktp) rfl e_143, fun U hU hW => ⟨rfl, by rw [hU]; exact hP, va_K.moved hW.alike hK⟩⟩ rfl rfl hl.1 rfl (lv_room (Nat.le_of_ble_eq_true rfl)) dX6_advance_108 ⟨Nat.le_of_ble_eq_true rfl, Nat.le_of_ble_eq_true rfl⟩) (fun r_157 k_158 => ?_)
      refine vp_callSi (W.runS (As := [.int r_157]) (rest := []) ⟨hx, hb, hml, hown, hts⟩ (s_kindOf l r_157) (va_cwS 1 hts gX6_advance_X6_kindOf rfl rfl rfl (by decide +kernel) ⟨Nat.le_of_ble_eq_true rfl, Nat.le_of_ble_eq_true rfl⟩) ⟨fun a U g mk q => q, fun U hU hW => ⟨rfl, trivial⟩⟩ rfl rfl hl.1 rfl (lv_room (Nat.le_of_ble_eq_true rfl)) dX6_advance_111 ⟨Nat.le_of_ble_eq_true rfl, Nat.le_of_ble_eq_true rfl⟩) (fun r_159 k_160 => ?_)
      obtain ⟨hk_161, k_162, hk_163, rfl⟩ := k_160
      refine lv_aload_n hx hb dX6_advance_114 rfl (lv_at hl 1 rfl) ?_
      refine va_get (D := D) (ci := 6) (v := .int (nI k_22)) (C := RX6) (T := TX6) (N := 5) hx hb hts hin6 hown hK hP ktp e_143 rfl 1 (by decide) (hts (.fieldLink RX6 35 "HoneyHouse$Tape" "kind" "I") (List.mem_of_getElem? (i := 4) rfl)) (fun _ h9 => h9) rfl dX6_advance_115 ?_
      refine lv_icmp_ne (tgt := 134) hx hb dX6_advance_118 (by decide) (fun c_164 => ?_) (fun c_164 => ?_)
      · have d_165 := n_ne (a := k_162) (b := k_22) (by omega) (by omega) c_164
        exact W.vret hx hb hr (fun t ht hW => ⟨⟨(), rfl, trivial, ws_140, tys, hsm, htx, by rw [ht]; exact hP, va_K.moved hW.alike hK, hD, ⟨k_22, a_2, e9_138, by omega, by omega, by omega, e_143⟩⟩, hS.F ht⟩) hS.2.2 dX6_advance_134
      have d_166 := n_eq (a := k_162) (b := k_22) (by omega) (by omega) c_164
      refine lv_aload_n hx hb dX6_advance_121 rfl (lv_at hl 1 rfl) ?_
      refine lv_dup hx hb dX6_advance_122 rfl ?_
      refine va_get (D := D) (ci := 6) (v := .int (nI e9_138)) (C := RX6) (T := TX6) (N := 5) hx hb hts hin6 hown hK hP ktp e_143 rfl 3 (by decide) (hts (.fieldLink RX6 19 "HoneyHouse$Tape" "end" "I") (List.mem_of_getElem? (i := 1) rfl)) (fun _ h9 => h9) rfl dX6_advance_123 ?_
      refine lv_iconst (v := 1) hx hb dX6_advance_126 (by decide) ?_
      refine lv_iadd hx hb dX6_advance_127 ?_
      refine tp_i (y := nI (e9_138 + 1)) (nI_add e9_138 1) ?_
      refine va_put (D := D) (ci := 6) (v := .int (nI (e9_138 + 1))) (ty := .int) (C := RX6) (T := TX6) (N := 5) hx hb hts hin6 tyX6 tyX6_ok nmX6 hown hK hP hD hS ktp e_143 rfl 3 (by decide) (hts (.fieldLink RX6 19 "HoneyHouse$Tape" "end" "I") (List.mem_of_getElem? (i := 1) rfl)) (fun _ h9 => h9) rfl (tyX6_ok 3 (by decide)) rfl rfl (Nat.le_of_ble_eq_true rfl) dX6_advance_128 (fun H locs hP hD hS => ?_)
      have hP : va_P D vwCl (ws_140.set ktp (tp, .inr (6, [.int (nI tl), .int (nI k_22), .int (nI a_2), .int (nI (e9_138 + 1)), .ref bb]))) H := hP
      have hD : va_D A (ws_140.set ktp (tp, .inr (6, [.int (nI tl), .int (nI k_22), .int (nI a_2), .int (nI (e9_138 + 1)), .ref bb]))) := hD
      have hm_168 : sm [6] ws_140 (ws_140.set ktp (tp, .inr (6, [.int (nI tl), .int (nI k_22), .int (nI a_2), .int (nI (e9_138 + 1)), .ref bb]))) := sm.flds e_143 (smF.c (smV.rf _) (smF.c (smV.rf _) (smF.c (smV.rf _) (smF.c (smV.i _ _) (smF.c (smV.rf _) (rfl)))))) (List.mem_singleton.mpr rfl)
      have e_169 : (ws_140.set ktp (tp, .inr (6, [.int (nI tl), .int (nI k_22), .int (nI a_2), .int (nI (e9_138 + 1)), .ref bb])))[ktp]? = some (tp, .inr (6, [.int (nI tl), .int (nI k_22), .int (nI a_2), .int (nI (e9_138 + 1)), .ref bb])) := wset_self e_143
      generalize ws_140.set ktp (tp, .inr (6, [.int (nI tl), .int (nI k_22), .int (nI a_2), .int (nI (e9_138 + 1)), .ref bb])) = ws_167 at hP hD hm_168 e_169
      obtain ⟨f_171, e_170⟩ := hm_168.arrI e_151
      have hsm := hsm.tr (hm_168.mono (by decide))
      have hlp_6 := hlp_6.tr (hm_168.mono (by decide))
      have hlp_142 := hlp_142.tr (hm_168.mono (by decide))
      refine lv_goto (tgt := 88) hx hb dX6_advance_131 (by decide) ?_
      exact ih_137 (e9_138 + 1) ws_167 _ _ ls (by show tl - (e9_138 + 1) < tl - e9_138; omega) ⟨hlp_142, e_169, (show a_2 ≤ (e9_138 + 1) ∧ (e9_138 + 1) ≤ tl from by omega)⟩ hP hD hS (lv_sub hl [0, 1] rfl)
    have d_172 := n_ne (a := k_22) (b := 1) (by omega) (by omega) c_135
    refine lv_aload_n hx hb dX6_advance_74 rfl (lv_at hl 1 rfl) ?_
    refine va_get (D := D) (ci := 6) (v := .int (nI k_22)) (C := RX6) (T := TX6) (N := 5) hx hb hts hin6 hown hK hP ktp e_132 rfl 1 (by decide) (hts (.fieldLink RX6 35 "HoneyHouse$Tape" "kind" "I") (List.mem_of_getElem? (i := 4) rfl)) (fun _ h9 => h9) rfl dX6_advance_75 ?_
    refine lv_iconst (v := 2) hx hb dX6_advance_78 (by decide) ?_
    refine lv_icmp_ne (tgt := 86) hx hb dX6_advance_79 (by decide) (fun c_173 => ?_) (fun c_173 => ?_)
    · have d_174 := n_ne (a := k_22) (b := 2) (by omega) (by omega) c_173
      refine lv_iconst (v := 0) hx hb dX6_advance_86 (by decide) ?_
      refine lv_istore_n (lv' := [(2, .int 0), (1, .int (nI a_2)), (0, .ref tp)]) hx hb dX6_advance_87 rfl hl (by decide) rfl (fun ls hl => ?_)
      refine lp_V (nL := 3) (σ := Nat) (lv := fun x9 => [(2, .int 0), (0, .ref tp)]) (μ := fun x9 => tl - x9) (J := fun x9 ws9 => sm [6] ws_130 ws9 ∧ (ws9[ktp]? = some (tp, .inr (6, [.int (nI tl), .int (nI k_22), .int (nI a_2), .int (nI x9), .ref bb]))) ∧ (a_2 ≤ x9 ∧ x9 ≤ tl)) (fun x9 ws_178 H locs ls hj hP hD hS hl ih_175 => ?_) a_2 ws_130 _ _ ls ⟨sm.rf _, e_132, (show a_2 ≤ a_2 ∧ a_2 ≤ tl from by omega)⟩ hP hD hS (lv_sub hl [0, 2] rfl)
      obtain ⟨e9_176, hx9⟩ : ∃ y9, y9 = x9 := ⟨_, rfl⟩
      subst hx9
      have hj : sm [6] ws_130 ws_178 ∧ (ws_178[ktp]? = some (tp, .inr (6, [.int (nI tl), .int (nI k_22), .int (nI a_2), .int (nI e9_176), .ref bb]))) ∧ (a_2 ≤ e9_176 ∧ e9_176 ≤ tl) := hj
      obtain ⟨hm_179, e_181, he_177⟩ := hj
      obtain ⟨g_183, e_182, h_184⟩ := hm_179.obj e_132
      obtain ⟨z_185, z_186, z_187, z_188, rfl⟩ := smX6 h_184
      obtain ⟨f_190, e_189⟩ := hm_179.arrI e_133
      have hsm := hsm.tr (hm_179.mono (by decide))
      have hlp_6 := hlp_6.tr (hm_179.mono (by decide))
      have hlp_180 := hm_179
      have hl : lv_has ls 3 [(2, .int 0), (0, .ref tp)] := hl
      refine lv_iload_n hx hb dX6_advance_88 rfl (lv_at hl 0 rfl) ?_
      refine lv_if_eq (tgt := 134) hx hb dX6_advance_89 (by decide) (fun c_191 => ?_) (fun c_191 => absurd (by decide) c_191)
      exact W.vret hx hb hr (fun t ht hW => ⟨⟨(), rfl, trivial, ws_178, tys, hsm, htx, by rw [ht]; exact hP, va_K.moved hW.alike hK, hD, ⟨k_22, a_2, e9_176, by omega, by omega, by omega, e_181⟩⟩, hS.F ht⟩) hS.2.2 dX6_advance_134
    have d_192 := n_eq (a := k_22) (b := 2) (by omega) (by omega) c_173
    refine lv_iconst (v := 1) hx hb dX6_advance_82 (by decide) ?_
    refine lv_goto (tgt := 87) hx hb dX6_advance_83 (by decide) ?_
    refine lv_istore_n (lv' := [(2, .int 1), (1, .int (nI a_2)), (0, .ref tp)]) hx hb dX6_advance_87 rfl hl (by decide) rfl (fun ls hl => ?_)
    refine lp_V (nL := 3) (σ := Nat) (lv := fun x9 => [(2, .int 1), (0, .ref tp)]) (μ := fun x9 => tl - x9) (J := fun x9 ws9 => sm [6] ws_130 ws9 ∧ (ws9[ktp]? = some (tp, .inr (6, [.int (nI tl), .int (nI k_22), .int (nI a_2), .int (nI x9), .ref bb]))) ∧ (a_2 ≤ x9 ∧ x9 ≤ tl)) (fun x9 ws_196 H locs ls hj hP hD hS hl ih_193 => ?_) a_2 ws_130 _ _ ls ⟨sm.rf _, e_132, (show a_2 ≤ a_2 ∧ a_2 ≤ tl from by omega)⟩ hP hD hS (lv_sub hl [0, 2] rfl)
    obtain ⟨e9_194, hx9⟩ : ∃ y9, y9 = x9 := ⟨_, rfl⟩
    subst hx9
    have hj : sm [6] ws_130 ws_196 ∧ (ws_196[ktp]? = some (tp, .inr (6, [.int (nI tl), .int (nI k_22), .int (nI a_2), .int (nI e9_194), .ref bb]))) ∧ (a_2 ≤ e9_194 ∧ e9_194 ≤ tl) := hj
    obtain ⟨hm_197, e_199, he_195⟩ := hj
    obtain ⟨g_201, e_200, h_202⟩ := hm_197.obj e_132
    obtain ⟨z_203, z_204, z_205, z_206, rfl⟩ := smX6 h_202
    obtain ⟨f_208, e_207⟩ := hm_197.arrI e_133
    have hsm := hsm.tr (hm_197.mono (by decide))
    have hlp_6 := hlp_6.tr (hm_197.mono (by decide))
    have hlp_198 := hm_197
    have hl : lv_has ls 3 [(2, .int 1), (0, .ref tp)] := hl
    refine lv_iload_n hx hb dX6_advance_88 rfl (lv_at hl 0 rfl) ?_
    refine lv_if_eq (tgt := 134) hx hb dX6_advance_89 (by decide) (fun c_209 => absurd c_209 (by decide)) (fun c_209 => ?_)
    refine lv_aload_n hx hb dX6_advance_92 rfl (lv_at hl 1 rfl) ?_
    refine va_get (D := D) (ci := 6) (v := .int (nI e9_194)) (C := RX6) (T := TX6) (N := 5) hx hb hts hin6 hown hK hP ktp e_199 rfl 3 (by decide) (hts (.fieldLink RX6 19 "HoneyHouse$Tape" "end" "I") (List.mem_of_getElem? (i := 1) rfl)) (fun _ h9 => h9) rfl dX6_advance_93 ?_
    refine lv_aload_n hx hb dX6_advance_96 rfl (lv_at hl 1 rfl) ?_
    refine va_get (D := D) (ci := 6) (v := .int (nI tl)) (C := RX6) (T := TX6) (N := 5) hx hb hts hin6 hown hK hP ktp e_199 rfl 0 (by decide) (hts (.fieldLink RX6 15 "HoneyHouse$Tape" "length" "I") (List.mem_of_getElem? (i := 2) rfl)) (fun _ h9 => h9) rfl dX6_advance_97 ?_
    refine lv_icmp_ge (tgt := 134) hx hb dX6_advance_100 (by decide) (fun c_210 => ?_) (fun c_210 => ?_)
    · have d_211 := n_le (a := tl) (b := e9_194) (by omega) (by omega) c_210
      exact W.vret hx hb hr (fun t ht hW => ⟨⟨(), rfl, trivial, ws_196, tys, hsm, htx, by rw [ht]; exact hP, va_K.moved hW.alike hK, hD, ⟨k_22, a_2, e9_194, by omega, by omega, by omega, e_199⟩⟩, hS.F ht⟩) hS.2.2 dX6_advance_134
    have d_212 := n_nle (a := tl) (b := e9_194) (by omega) (by omega) c_210
    refine lv_aload_n hx hb dX6_advance_103 rfl (lv_at hl 1 rfl) ?_
    refine lv_aload_n hx hb dX6_advance_104 rfl (lv_at hl 1 rfl) ?_
    refine va_get (D := D) (ci := 6) (v := .int (nI e9_194)) (C := RX6) (T := TX6) (N := 5) hx hb hts hin6 hown hK hP ktp e_199 rfl 3 (by decide) (hts (.fieldLink RX6 19 "HoneyHouse$Tape" "end" "I") (List.mem_of_getElem? (i := 1) rfl)) (fun _ h9 => h9) rfl dX6_advance_105 ?_
    refine vp_callSi (W.runV (As := [.int (nI e9_194)]) (rest := []) ⟨hx, hb, hml, hown, hts⟩ (s_byteAt l D ws_196 tys tp ktp tl (nI k_22) (nI a_2) (nI e9_194) bb kbb cbb tbb f_208 (nI e9_194) e_199 e_207 ubb) (cwV 1 hts gX6_advance_X6_byteAt rfl rfl rfl (by decide +kernel) ⟨Nat.le_of_ble_eq_true rfl, Nat.le_of_ble_eq_true rfl⟩) ⟨fun a U g mk q => ⟨q.1, q.2.1, va_K.moved (u := U) (U := U.calling g mk a) (Vm.Alike.refl U.vm) q.2.2⟩, va_recv hK hP (ci := 6) (q0 := ktp) rfl e_199, fun U hU hW => ⟨rfl, by rw [hU]; exact hP, va_K.moved hW.alike hK⟩⟩ rfl rfl hl.1 rfl (lv_room (Nat.le_of_ble_eq_true rfl)) dX6_advance_108 ⟨Nat.le_of_ble_eq_true rfl, Nat.le_of_ble_eq_true rfl⟩) (fun r_213 k_214 => ?_)
    refine vp_callSi (W.runS (As := [.int r_213]) (rest := []) ⟨hx, hb, hml, hown, hts⟩ (s_kindOf l r_213) (va_cwS 1 hts gX6_advance_X6_kindOf rfl rfl rfl (by decide +kernel) ⟨Nat.le_of_ble_eq_true rfl, Nat.le_of_ble_eq_true rfl⟩) ⟨fun a U g mk q => q, fun U hU hW => ⟨rfl, trivial⟩⟩ rfl rfl hl.1 rfl (lv_room (Nat.le_of_ble_eq_true rfl)) dX6_advance_111 ⟨Nat.le_of_ble_eq_true rfl, Nat.le_of_ble_eq_true rfl⟩) (fun r_215 k_216 => ?_)
    obtain ⟨hk_217, k_218, hk_219, rfl⟩ := k_216
    refine lv_aload_n hx hb dX6_advance_114 rfl (lv_at hl 1 rfl) ?_
    refine va_get (D := D) (ci := 6) (v := .int (nI k_22)) (C := RX6) (T := TX6) (N := 5) hx hb hts hin6 hown hK hP ktp e_199 rfl 1 (by decide) (hts (.fieldLink RX6 35 "HoneyHouse$Tape" "kind" "I") (List.mem_of_getElem? (i := 4) rfl)) (fun _ h9 => h9) rfl dX6_advance_115 ?_
    refine lv_icmp_ne (tgt := 134) hx hb dX6_advance_118 (by decide) (fun c_220 => ?_) (fun c_220 => ?_)
    · have d_221 := n_ne (a := k_218) (b := k_22) (by omega) (by omega) c_220
      exact W.vret hx hb hr (fun t ht hW => ⟨⟨(), rfl, trivial, ws_196, tys, hsm, htx, by rw [ht]; exact hP, va_K.moved hW.alike hK, hD, ⟨k_22, a_2, e9_194, by omega, by omega, by omega, e_199⟩⟩, hS.F ht⟩) hS.2.2 dX6_advance_134
    have d_222 := n_eq (a := k_218) (b := k_22) (by omega) (by omega) c_220
    refine lv_aload_n hx hb dX6_advance_121 rfl (lv_at hl 1 rfl) ?_
    refine lv_dup hx hb dX6_advance_122 rfl ?_
    refine va_get (D := D) (ci := 6) (v := .int (nI e9_194)) (C := RX6) (T := TX6) (N := 5) hx hb hts hin6 hown hK hP ktp e_199 rfl 3 (by decide) (hts (.fieldLink RX6 19 "HoneyHouse$Tape" "end" "I") (List.mem_of_getElem? (i := 1) rfl)) (fun _ h9 => h9) rfl dX6_advance_123 ?_
    refine lv_iconst (v := 1) hx hb dX6_advance_126 (by decide) ?_
    refine lv_iadd hx hb dX6_advance_127 ?_
    refine tp_i (y := nI (e9_194 + 1)) (nI_add e9_194 1) ?_
    refine va_put (D := D) (ci := 6) (v := .int (nI (e9_194 + 1))) (ty := .int) (C := RX6) (T := TX6) (N := 5) hx hb hts hin6 tyX6 tyX6_ok nmX6 hown hK hP hD hS ktp e_199 rfl 3 (by decide) (hts (.fieldLink RX6 19 "HoneyHouse$Tape" "end" "I") (List.mem_of_getElem? (i := 1) rfl)) (fun _ h9 => h9) rfl (tyX6_ok 3 (by decide)) rfl rfl (Nat.le_of_ble_eq_true rfl) dX6_advance_128 (fun H locs hP hD hS => ?_)
    have hP : va_P D vwCl (ws_196.set ktp (tp, .inr (6, [.int (nI tl), .int (nI k_22), .int (nI a_2), .int (nI (e9_194 + 1)), .ref bb]))) H := hP
    have hD : va_D A (ws_196.set ktp (tp, .inr (6, [.int (nI tl), .int (nI k_22), .int (nI a_2), .int (nI (e9_194 + 1)), .ref bb]))) := hD
    have hm_224 : sm [6] ws_196 (ws_196.set ktp (tp, .inr (6, [.int (nI tl), .int (nI k_22), .int (nI a_2), .int (nI (e9_194 + 1)), .ref bb]))) := sm.flds e_199 (smF.c (smV.rf _) (smF.c (smV.rf _) (smF.c (smV.rf _) (smF.c (smV.i _ _) (smF.c (smV.rf _) (rfl)))))) (List.mem_singleton.mpr rfl)
    have e_225 : (ws_196.set ktp (tp, .inr (6, [.int (nI tl), .int (nI k_22), .int (nI a_2), .int (nI (e9_194 + 1)), .ref bb])))[ktp]? = some (tp, .inr (6, [.int (nI tl), .int (nI k_22), .int (nI a_2), .int (nI (e9_194 + 1)), .ref bb])) := wset_self e_199
    generalize ws_196.set ktp (tp, .inr (6, [.int (nI tl), .int (nI k_22), .int (nI a_2), .int (nI (e9_194 + 1)), .ref bb])) = ws_223 at hP hD hm_224 e_225
    obtain ⟨f_227, e_226⟩ := hm_224.arrI e_207
    have hsm := hsm.tr (hm_224.mono (by decide))
    have hlp_6 := hlp_6.tr (hm_224.mono (by decide))
    have hlp_198 := hlp_198.tr (hm_224.mono (by decide))
    refine lv_goto (tgt := 88) hx hb dX6_advance_131 (by decide) ?_
    exact ih_193 (e9_194 + 1) ws_223 _ _ ls (by show tl - (e9_194 + 1) < tl - e9_194; omega) ⟨hlp_198, e_225, (show a_2 ≤ (e9_194 + 1) ∧ (e9_194 + 1) ≤ tl from by omega)⟩ hP hD hS (lv_sub hl [0, 1] rfl)
  have d_228 := n_nle (a := tl) (b := a_2) (by omega) (by omega) c_10
  refine lv_aload_n hx hb dX6_advance_13 rfl (lv_at hl 1 rfl) ?_
  refine lv_iload_n hx hb dX6_advance_14 rfl (lv_at hl 0 rfl) ?_
  refine vp_callSi (W.runV (As := [.int (nI a_2)]) (rest := []) ⟨hx, hb, hml, hown, hts⟩ (s_byteAt l D ws_4 tys tp ktp tl x1 x2 (nI te) bb kbb cbb tbb f_9 (nI a_2) e_7 e_8 ubb) (cwV 1 hts gX6_advance_X6_byteAt rfl rfl rfl (by decide +kernel) ⟨Nat.le_of_ble_eq_true rfl, Nat.le_of_ble_eq_true rfl⟩) ⟨fun a U g mk q => ⟨q.1, q.2.1, va_K.moved (u := U) (U := U.calling g mk a) (Vm.Alike.refl U.vm) q.2.2⟩, va_recv hK hP (ci := 6) (q0 := ktp) rfl e_7, fun U hU hW => ⟨rfl, by rw [hU]; exact hP, va_K.moved hW.alike hK⟩⟩ rfl rfl hl.1 rfl (lv_room (Nat.le_of_ble_eq_true rfl)) dX6_advance_15 ⟨Nat.le_of_ble_eq_true rfl, Nat.le_of_ble_eq_true rfl⟩) (fun r_229 k_230 => ?_)
  refine vp_callSi (W.runS (As := [.int r_229]) (rest := []) ⟨hx, hb, hml, hown, hts⟩ (s_kindOf l r_229) (va_cwS 1 hts gX6_advance_X6_kindOf rfl rfl rfl (by decide +kernel) ⟨Nat.le_of_ble_eq_true rfl, Nat.le_of_ble_eq_true rfl⟩) ⟨fun a U g mk q => q, fun U hU hW => ⟨rfl, trivial⟩⟩ rfl rfl hl.1 rfl (lv_room (Nat.le_of_ble_eq_true rfl)) dX6_advance_18 ⟨Nat.le_of_ble_eq_true rfl, Nat.le_of_ble_eq_true rfl⟩) (fun r_231 k_232 => ?_)
  obtain ⟨hk_233, k_234, hk_235, rfl⟩ := k_232
  refine lv_iconst (v := 3) hx hb dX6_advance_21 (by decide) ?_
  refine lv_icmp_ne (tgt := 31) hx hb dX6_advance_22 (by decide) (fun c_236 => ?_) (fun c_236 => ?_)
  · have d_237 := n_ne (a := k_234) (b := 3) (by omega) (by omega) c_236
    refine lv_aload_n hx hb dX6_advance_31 rfl (lv_at hl 1 rfl) ?_
    refine lv_iload_n hx hb dX6_advance_32 rfl (lv_at hl 0 rfl) ?_
    refine va_put (D := D) (ci := 6) (v := .int (nI a_2)) (ty := .int) (C := RX6) (T := TX6) (N := 5) hx hb hts hin6 tyX6 tyX6_ok nmX6 hown hK hP hD hS ktp e_7 rfl 2 (by decide) (hts (.fieldLink RX6 32 "HoneyHouse$Tape" "start" "I") (List.mem_of_getElem? (i := 3) rfl)) (fun _ h9 => h9) rfl (tyX6_ok 2 (by decide)) rfl rfl (Nat.le_of_ble_eq_true rfl) dX6_advance_33 (fun H locs hP hD hS => ?_)
    have hP : va_P D vwCl (ws_4.set ktp (tp, .inr (6, [.int (nI tl), .int x1, .int (nI a_2), .int (nI te), .ref bb]))) H := hP
    have hD : va_D A (ws_4.set ktp (tp, .inr (6, [.int (nI tl), .int x1, .int (nI a_2), .int (nI te), .ref bb]))) := hD
    have hm_239 : sm [6] ws_4 (ws_4.set ktp (tp, .inr (6, [.int (nI tl), .int x1, .int (nI a_2), .int (nI te), .ref bb]))) := sm.flds e_7 (smF.c (smV.rf _) (smF.c (smV.rf _) (smF.c (smV.i _ _) (smF.c (smV.rf _) (smF.c (smV.rf _) (rfl)))))) (List.mem_singleton.mpr rfl)
    have e_240 : (ws_4.set ktp (tp, .inr (6, [.int (nI tl), .int x1, .int (nI a_2), .int (nI te), .ref bb])))[ktp]? = some (tp, .inr (6, [.int (nI tl), .int x1, .int (nI a_2), .int (nI te), .ref bb])) := wset_self e_7
    generalize ws_4.set ktp (tp, .inr (6, [.int (nI tl), .int x1, .int (nI a_2), .int (nI te), .ref bb])) = ws_238 at hP hD hm_239 e_240
    obtain ⟨f_242, e_241⟩ := hm_239.arrI e_8
    have hsm := hsm.tr (hm_239.mono (by decide))
    have hlp_6 := hlp_6.tr (hm_239.mono (by decide))
    refine lv_aload_n hx hb dX6_advance_36 rfl (lv_at hl 1 rfl) ?_
    refine lv_aload_n hx hb dX6_advance_37 rfl (lv_at hl 1 rfl) ?_
    refine lv_iload_n hx hb dX6_advance_38 rfl (lv_at hl 0 rfl) ?_
    refine vp_callSi (W.runV (As := [.int (nI a_2)]) (rest := [.ref tp]) ⟨hx, hb, hml, hown, hts⟩ (s_byteAt l D ws_238 tys tp ktp tl x1 (nI a_2) (nI te) bb kbb cbb tbb f_242 (nI a_2) e_240 e_241 ubb) (cwV 1 hts gX6_advance_X6_byteAt rfl rfl rfl (by decide +kernel) ⟨Nat.le_of_ble_eq_true rfl, Nat.le_of_ble_eq_true rfl⟩) ⟨fun a U g mk q => ⟨q.1, q.2.1, va_K.moved (u := U) (U := U.calling g mk a) (Vm.Alike.refl U.vm) q.2.2⟩, va_recv hK hP (ci := 6) (q0 := ktp) rfl e_240, fun U hU hW => ⟨rfl, by rw [hU]; exact hP, va_K.moved hW.alike hK⟩⟩ rfl rfl hl.1 rfl (lv_room (Nat.le_of_ble_eq_true rfl)) dX6_advance_39 ⟨Nat.le_of_ble_eq_true rfl, Nat.le_of_ble_eq_true rfl⟩) (fun r_243 k_244 => ?_)
    refine vp_callSi (W.runS (As := [.int r_243]) (rest := [.ref tp]) ⟨hx, hb, hml, hown, hts⟩ (s_kindOf l r_243) (va_cwS 1 hts gX6_advance_X6_kindOf rfl rfl rfl (by decide +kernel) ⟨Nat.le_of_ble_eq_true rfl, Nat.le_of_ble_eq_true rfl⟩) ⟨fun a U g mk q => q, fun U hU hW => ⟨rfl, trivial⟩⟩ rfl rfl hl.1 rfl (lv_room (Nat.le_of_ble_eq_true rfl)) dX6_advance_42 ⟨Nat.le_of_ble_eq_true rfl, Nat.le_of_ble_eq_true rfl⟩) (fun r_245 k_246 => ?_)
    obtain ⟨hk_247, k_248, hk_249, rfl⟩ := k_246
    refine va_put (D := D) (ci := 6) (v := .int (nI k_248)) (ty := .int) (C := RX6) (T := TX6) (N := 5) hx hb hts hin6 tyX6 tyX6_ok nmX6 hown hK hP hD hS ktp e_240 rfl 1 (by decide) (hts (.fieldLink RX6 35 "HoneyHouse$Tape" "kind" "I") (List.mem_of_getElem? (i := 4) rfl)) (fun _ h9 => h9) rfl (tyX6_ok 1 (by decide)) rfl rfl (Nat.le_of_ble_eq_true rfl) dX6_advance_45 (fun H locs hP hD hS => ?_)
    have hP : va_P D vwCl (ws_238.set ktp (tp, .inr (6, [.int (nI tl), .int (nI k_248), .int (nI a_2), .int (nI te), .ref bb]))) H := hP
    have hD : va_D A (ws_238.set ktp (tp, .inr (6, [.int (nI tl), .int (nI k_248), .int (nI a_2), .int (nI te), .ref bb]))) := hD
    have hm_251 : sm [6] ws_238 (ws_238.set ktp (tp, .inr (6, [.int (nI tl), .int (nI k_248), .int (nI a_2), .int (nI te), .ref bb]))) := sm.flds e_240 (smF.c (smV.rf _) (smF.c (smV.i _ _) (smF.c (smV.rf _) (smF.c (smV.rf _) (smF.c (smV.rf _) (rfl)))))) (List.mem_singleton.mpr rfl)
    have e_252 : (ws_238.set ktp (tp, .inr (6, [.int (nI tl), .int (nI k_248), .int (nI a_2), .int (nI te), .ref bb])))[ktp]? = some (tp, .inr (6, [.int (nI tl), .int (nI k_248), .int (nI a_2), .int (nI te), .ref bb])) := wset_self e_240
    generalize ws_238.set ktp (tp, .inr (6, [.int (nI tl), .int (nI k_248), .int (nI a_2), .int (nI te), .ref bb])) = ws_250 at hP hD hm_251 e_252
    obtain ⟨f_254, e_253⟩ := hm_251.arrI e_241
    have hsm := hsm.tr (hm_251.mono (by decide))
    have hlp_6 := hlp_6.tr (hm_251.mono (by decide))
    refine lv_aload_n hx hb dX6_advance_48 rfl (lv_at hl 1 rfl) ?_
    refine lv_aload_n hx hb dX6_advance_49 rfl (lv_at hl 1 rfl) ?_
    refine va_get (D := D) (ci := 6) (v := .int (nI k_248)) (C := RX6) (T := TX6) (N := 5) hx hb hts hin6 hown hK hP ktp e_252 rfl 1 (by decide) (hts (.fieldLink RX6 35 "HoneyHouse$Tape" "kind" "I") (List.mem_of_getElem? (i := 4) rfl)) (fun _ h9 => h9) rfl dX6_advance_50 ?_
    refine lv_if_ne (tgt := 60) hx hb dX6_advance_53 (by decide) (fun c_255 => ?_) (fun c_255 => ?_)
    · have d_256 := n_ne (a := k_248) (b := 0) (by omega) (by omega) c_255
      have hlt : a_2 < tl := k_244.elim (fun q => absurd (n_eq (a := k_248) (b := 0) (by omega) (by omega) (hk_247 q)) d_256) (fun q => n_nle (a := tl) (b := a_2) (by omega) (by omega) q)
      refine lv_iload_n hx hb dX6_advance_60 rfl (lv_at hl 0 rfl) ?_
      refine lv_iconst (v := 1) hx hb dX6_advance_61 (by decide) ?_
      refine lv_iadd hx hb dX6_advance_62 ?_
      refine tp_i (y := nI (a_2 + 1)) (nI_add a_2 1) ?_
      refine va_put (D := D) (ci := 6) (v := .int (nI (a_2 + 1))) (ty := .int) (C := RX6) (T := TX6) (N := 5) hx hb hts hin6 tyX6 tyX6_ok nmX6 hown hK hP hD hS ktp e_252 rfl 3 (by decide) (hts (.fieldLink RX6 19 "HoneyHouse$Tape" "end" "I") (List.mem_of_getElem? (i := 1) rfl)) (fun _ h9 => h9) rfl (tyX6_ok 3 (by decide)) rfl rfl (Nat.le_of_ble_eq_true rfl) dX6_advance_63 (fun H locs hP hD hS => ?_)
      have hP : va_P D vwCl (ws_250.set ktp (tp, .inr (6, [.int (nI tl), .int (nI k_248), .int (nI a_2), .int (nI (a_2 + 1)), .ref bb]))) H := hP
      have hD : va_D A (ws_250.set ktp (tp, .inr (6, [.int (nI tl), .int (nI k_248), .int (nI a_2), .int (nI (a_2 + 1)), .ref bb]))) := hD
      have hm_258 : sm [6] ws_250 (ws_250.set ktp (tp, .inr (6, [.int (nI tl), .int (nI k_248), .int (nI a_2), .int (nI (a_2 + 1)), .ref bb]))) := sm.flds e_252 (smF.c (smV.rf _) (smF.c (smV.rf _) (smF.c (smV.rf _) (smF.c (smV.i _ _) (smF.c (smV.rf _) (rfl)))))) (List.mem_singleton.mpr rfl)
      have e_259 : (ws_250.set ktp (tp, .inr (6, [.int (nI tl), .int (nI k_248), .int (nI a_2), .int (nI (a_2 + 1)), .ref bb])))[ktp]? = some (tp, .inr (6, [.int (nI tl), .int (nI k_248), .int (nI a_2), .int (nI (a_2 + 1)), .ref bb])) := wset_self e_252
      generalize ws_250.set ktp (tp, .inr (6, [.int (nI tl), .int (nI k_248), .int (nI a_2), .int (nI (a_2 + 1)), .ref bb])) = ws_257 at hP hD hm_258 e_259
      obtain ⟨f_261, e_260⟩ := hm_258.arrI e_253
      have hsm := hsm.tr (hm_258.mono (by decide))
      have hlp_6 := hlp_6.tr (hm_258.mono (by decide))
      refine lv_aload_n hx hb dX6_advance_66 rfl (lv_at hl 1 rfl) ?_
      refine va_get (D := D) (ci := 6) (v := .int (nI k_248)) (C := RX6) (T := TX6) (N := 5) hx hb hts hin6 hown hK hP ktp e_259 rfl 1 (by decide) (hts (.fieldLink RX6 35 "HoneyHouse$Tape" "kind" "I") (List.mem_of_getElem? (i := 4) rfl)) (fun _ h9 => h9) rfl dX6_advance_67 ?_
      refine lv_iconst (v := 1) hx hb dX6_advance_70 (by decide) ?_
      refine lv_icmp_eq (tgt := 82) hx hb dX6_advance_71 (by decide) (fun c_262 => ?_) (fun c_262 => ?_)
      · have d_263 := n_eq (a := k_248) (b := 1) (by omega) (by omega) c_262
        refine lv_iconst (v := 1) hx hb dX6_advance_82 (by decide) ?_
        refine lv_goto (tgt := 87) hx hb dX6_advance_83 (by decide) ?_
        refine lv_istore_n (lv' := [(2, .int 1), (1, .int (nI a_2)), (0, .ref tp)]) hx hb dX6_advance_87 rfl hl (by decide) rfl (fun ls hl => ?_)
        refine lp_V (nL := 3) (σ := Nat) (lv := fun x9 => [(2, .int 1), (0, .ref tp)]) (μ := fun x9 => tl - x9) (J := fun x9 ws9 => sm [6] ws_257 ws9 ∧ (ws9[ktp]? = some (tp, .inr (6, [.int (nI tl), .int (nI k_248), .int (nI a_2), .int (nI x9), .ref bb]))) ∧ (a_2 ≤ x9 ∧ x9 ≤ tl)) (fun x9 ws_267 H locs ls hj hP hD hS hl ih_264 => ?_) (a_2 + 1) ws_257 _ _ ls ⟨sm.rf _, e_259, (show a_2 ≤ (a_2 + 1) ∧ (a_2 + 1) ≤ tl from by omega)⟩ hP hD hS (lv_sub hl [0, 2] rfl)
        obtain ⟨e9_265, hx9⟩ : ∃ y9, y9 = x9 := ⟨_, rfl⟩
        subst hx9
        have hj : sm [6] ws_257 ws_267 ∧ (ws_267[ktp]? = some (tp, .inr (6, [.int (nI tl), .int (nI k_248), .int (nI a_2), .int (nI e9_265), .ref bb]))) ∧ (a_2 ≤ e9_265 ∧ e9_265 ≤ tl) := hj
        obtain ⟨hm_268, e_270, he_266⟩ := hj
        obtain ⟨g_272, e_271, h_273⟩ := hm_268.obj e_259
        obtain ⟨z_274, z_275, z_276, z_277, rfl⟩ := smX6 h_273
        obtain ⟨f_279, e_278⟩ := hm_268.arrI e_260
        have hsm := hsm.tr (hm_268.mono (by decide))
        have hlp_6 := hlp_6.tr (hm_268.mono (by decide))
        have hlp_269 := hm_268
        have hl : lv_has ls 3 [(2, .int 1), (0, .ref tp)] := hl
        refine lv_iload_n hx hb dX6_advance_88 rfl (lv_at hl 0 rfl) ?_
        refine lv_if_eq (tgt := 134) hx hb dX6_advance_89 (by decide) (fun c_280 => absurd c_280 (by decide)) (fun c_280 => ?_)
        refine lv_aload_n hx hb dX6_advance_92 rfl (lv_at hl 1 rfl) ?_
        refine va_get (D := D) (ci := 6) (v := .int (nI e9_265)) (C := RX6) (T := TX6) (N := 5) hx hb hts hin6 hown hK hP ktp e_270 rfl 3 (by decide) (hts (.fieldLink RX6 19 "HoneyHouse$Tape" "end" "I") (List.mem_of_getElem? (i := 1) rfl)) (fun _ h9 => h9) rfl dX6_advance_93 ?_
        refine lv_aload_n hx hb dX6_advance_96 rfl (lv_at hl 1 rfl) ?_
        refine va_get (D := D) (ci := 6) (v := .int (nI tl)) (C := RX6) (T := TX6) (N := 5) hx hb hts hin6 hown hK hP ktp e_270 rfl 0 (by decide) (hts (.fieldLink RX6 15 "HoneyHouse$Tape" "length" "I") (List.mem_of_getElem? (i := 2) rfl)) (fun _ h9 => h9) rfl dX6_advance_97 ?_
        refine lv_icmp_ge (tgt := 134) hx hb dX6_advance_100 (by decide) (fun c_281 => ?_) (fun c_281 => ?_)
        · have d_282 := n_le (a := tl) (b := e9_265) (by omega) (by omega) c_281
          exact W.vret hx hb hr (fun t ht hW => ⟨⟨(), rfl, trivial, ws_267, tys, hsm, htx, by rw [ht]; exact hP, va_K.moved hW.alike hK, hD, ⟨k_248, a_2, e9_265, by omega, by omega, by omega, e_270⟩⟩, hS.F ht⟩) hS.2.2 dX6_advance_134
        have d_283 := n_nle (a := tl) (b := e9_265) (by omega) (by omega) c_281
        refine lv_aload_n hx hb dX6_advance_103 rfl (lv_at hl 1 rfl) ?_
        refine lv_aload_n hx hb dX6_advance_104 rfl (lv_at hl 1 rfl) ?_
        refine va_get (D := D) (ci := 6) (v := .int (nI e9_265)) (C := RX6) (T := TX6) (N := 5) hx hb hts hin6 hown hK hP ktp e_270 rfl 3 (by decide) (hts (.fieldLink RX6 19 "HoneyHouse$Tape" "end" "I") (List.mem_of_getElem? (i := 1) rfl)) (fun _ h9 => h9) rfl dX6_advance_105 ?_
        refine vp_callSi (W.runV (As := [.int (nI e9_265)]) (rest := []) ⟨hx, hb, hml, hown, hts⟩ (s_byteAt l D ws_267 tys tp ktp tl (nI k_248) (nI a_2) (nI e9_265) bb kbb cbb tbb f_279 (nI e9_265) e_270 e_278 ubb) (cwV 1 hts gX6_advance_X6_byteAt rfl rfl rfl (by decide +kernel) ⟨Nat.le_of_ble_eq_true rfl, Nat.le_of_ble_eq_true rfl⟩) ⟨fun a U g mk q => ⟨q.1, q.2.1, va_K.moved (u := U) (U := U.calling g mk a) (Vm.Alike.refl U.vm) q.2.2⟩, va_recv hK hP (ci := 6) (q0 := ktp) rfl e_270, fun U hU hW => ⟨rfl, by rw [hU]; exact hP, va_K.moved hW.alike hK⟩⟩ rfl rfl hl.1 rfl (lv_room (Nat.le_of_ble_eq_true rfl)) dX6_advance_108 ⟨Nat.le_of_ble_eq_true rfl, Nat.le_of_ble_eq_true rfl⟩) (fun r_284 k_285 => ?_)
        refine vp_callSi (W.runS (As := [.int r_284]) (rest := []) ⟨hx, hb, hml, hown, hts⟩ (s_kindOf l r_284) (va_cwS 1 hts gX6_advance_X6_kindOf rfl rfl rfl (by decide +kernel) ⟨Nat.le_of_ble_eq_true rfl, Nat.le_of_ble_eq_true rfl⟩) ⟨fun a U g mk q => q, fun U hU hW => ⟨rfl, trivial⟩⟩ rfl rfl hl.1 rfl (lv_room (Nat.le_of_ble_eq_true rfl)) dX6_advance_111 ⟨Nat.le_of_ble_eq_true rfl, Nat.le_of_ble_eq_true rfl⟩) (fun r_286 k_287 => ?_)
        obtain ⟨hk_288, k_289, hk_290, rfl⟩ := k_287
        refine lv_aload_n hx hb dX6_advance_114 rfl (lv_at hl 1 rfl) ?_
        refine va_get (D := D) (ci := 6) (v := .int (nI k_248)) (C := RX6) (T := TX6) (N := 5) hx hb hts hin6 hown hK hP ktp e_270 rfl 1 (by decide) (hts (.fieldLink RX6 35 "HoneyHouse$Tape" "kind" "I") (List.mem_of_getElem? (i := 4) rfl)) (fun _ h9 => h9) rfl dX6_advance_115 ?_
        refine lv_icmp_ne (tgt := 134) hx hb dX6_advance_118 (by decide) (fun c_291 => ?_) (fun c_291 => ?_)
        · have d_292 := n_ne (a := k_289) (b := k_248) (by omega) (by omega) c_291
          exact W.vret hx hb hr (fun t ht hW => ⟨⟨(), rfl, trivial, ws_267, tys, hsm, htx, by rw [ht]; exact hP, va_K.moved hW.alike hK, hD, ⟨k_248, a_2, e9_265, by omega, by omega, by omega, e_270⟩⟩, hS.F ht⟩) hS.2.2 dX6_advance_134
        have d_293 := n_eq (a := k_289) (b := k_248) (by omega) (by omega) c_291
        refine lv_aload_n hx hb dX6_advance_121 rfl (lv_at hl 1 rfl) ?_
        refine lv_dup hx hb dX6_advance_122 rfl ?_
        refine va_get (D := D) (ci := 6) (v := .int (nI e9_265)) (C := RX6) (T := TX6) (N := 5) hx hb hts hin6 hown hK hP ktp e_270 rfl 3 (by decide) (hts (.fieldLink RX6 19 "HoneyHouse$Tape" "end" "I") (List.mem_of_getElem? (i := 1) rfl)) (fun _ h9 => h9) rfl dX6_advance_123 ?_
        refine lv_iconst (v := 1) hx hb dX6_advance_126 (by decide) ?_
        refine lv_iadd hx hb dX6_advance_127 ?_
        refine tp_i (y := nI (e9_265 + 1)) (nI_add e9_265 1) ?_
        refine va_put (D := D) (ci := 6) (v := .int (nI (e9_265 + 1))) (ty := .int) (C := RX6) (T := TX6) (N := 5) hx hb hts hin6 tyX6 tyX6_ok nmX6 hown hK hP hD hS ktp e_270 rfl 3 (by decide) (hts (.fieldLink RX6 19 "HoneyHouse$Tape" "end" "I") (List.mem_of_getElem? (i := 1) rfl)) (fun _ h9 => h9) rfl (tyX6_ok 3 (by decide)) rfl rfl (Nat.le_of_ble_eq_true rfl) dX6_advance_128 (fun H locs hP hD hS => ?_)
        have hP : va_P D vwCl (ws_267.set ktp (tp, .inr (6, [.int (nI tl), .int (nI k_248), .int (nI a_2), .int (nI (e9_265 + 1)), .ref bb]))) H := hP
        have hD : va_D A (ws_267.set ktp (tp, .inr (6, [.int (nI tl), .int (nI k_248), .int (nI a_2), .int (nI (e9_265 + 1)), .ref bb]))) := hD
        have hm_295 : sm [6] ws_267 (ws_267.set ktp (tp, .inr (6, [.int (nI tl), .int (nI k_248), .int (nI a_2), .int (nI (e9_265 + 1)), .ref bb]))) := sm.flds e_270 (smF.c (smV.rf _) (smF.c (smV.rf _) (smF.c (smV.rf _) (smF.c (smV.i _ _) (smF.c (smV.rf _) (rfl)))))) (List.mem_singleton.mpr rfl)
        have e_296 : (ws_267.set ktp (tp, .inr (6, [.int (nI tl), .int (nI k_248), .int (nI a_2), .int (nI (e9_265 + 1)), .ref bb])))[ktp]? = some (tp, .inr (6, [.int (nI tl), .int (nI k_248), .int (nI a_2), .int (nI (e9_265 + 1)), .ref bb])) := wset_self e_270
        generalize ws_267.set ktp (tp, .inr (6, [.int (nI tl), .int (nI k_248), .int (nI a_2), .int (nI (e9_265 + 1)), .ref bb])) = ws_294 at hP hD hm_295 e_296
        obtain ⟨f_298, e_297⟩ := hm_295.arrI e_278
        have hsm := hsm.tr (hm_295.mono (by decide))
        have hlp_6 := hlp_6.tr (hm_295.mono (by decide))
        have hlp_269 := hlp_269.tr (hm_295.mono (by decide))
        refine lv_goto (tgt := 88) hx hb dX6_advance_131 (by decide) ?_
        exact ih_264 (e9_265 + 1) ws_294 _ _ ls (by show tl - (e9_265 + 1) < tl - e9_265; omega) ⟨hlp_269, e_296, (show a_2 ≤ (e9_265 + 1) ∧ (e9_265 + 1) ≤ tl from by omega)⟩ hP hD hS (lv_sub hl [0, 1] rfl)
      have d_299 := n_ne (a := k_248) (b := 1) (by omega) (by omega) c_262
      refine lv_aload_n hx hb dX6_advance_74 rfl (lv_at hl 1 rfl) ?_
      refine va_get (D := D) (ci := 6) (v := .int (nI k_248)) (C := RX6) (T := TX6) (N := 5) hx hb hts hin6 hown hK hP ktp e_259 rfl 1 (by decide) (hts (.fieldLink RX6 35 "HoneyHouse$Tape" "kind" "I") (List.mem_of_getElem? (i := 4) rfl)) (fun _ h9 => h9) rfl dX6_advance_75 ?_
      refine lv_iconst (v := 2) hx hb dX6_advance_78 (by decide) ?_
      refine lv_icmp_ne (tgt := 86) hx hb dX6_advance_79 (by decide) (fun c_300 => ?_) (fun c_300 => ?_)
      · have d_301 := n_ne (a := k_248) (b := 2) (by omega) (by omega) c_300
        refine lv_iconst (v := 0) hx hb dX6_advance_86 (by decide) ?_
        refine lv_istore_n (lv' := [(2, .int 0), (1, .int (nI a_2)), (0, .ref tp)]) hx hb dX6_advance_87 rfl hl (by decide) rfl (fun ls hl => ?_)
        refine lp_V (nL := 3) (σ := Nat) (lv := fun x9 => [(2, .int 0), (0, .ref tp)]) (μ := fun x9 => tl - x9) (J := fun x9 ws9 => sm [6] ws_257 ws9 ∧ (ws9[ktp]? = some (tp, .inr (6, [.int (nI tl), .int (nI k_248), .int (nI a_2), .int (nI x9), .ref bb]))) ∧ (a_2 ≤ x9 ∧ x9 ≤ tl)) (fun x9 ws_305 H locs ls hj hP hD hS hl ih_302 => ?_) (a_2 + 1) ws_257 _ _ ls ⟨sm.rf _, e_259, (show a_2 ≤ (a_2 + 1) ∧ (a_2 + 1) ≤ tl from by omega)⟩ hP hD hS (lv_sub hl [0, 2] rfl)
        obtain ⟨e9_303, hx9⟩ : ∃ y9, y9 = x9 := ⟨_, rfl⟩
        subst hx9
        have hj : sm [6] ws_257 ws_305 ∧ (ws_305[ktp]? = some (tp, .inr (6, [.int (nI tl), .int (nI k_248), .int (nI a_2), .int (nI e9_303), .ref bb]))) ∧ (a_2 ≤ e9_303 ∧ e9_303 ≤ tl) := hj
        obtain ⟨hm_306, e_308, he_304⟩ := hj
        obtain ⟨g_310, e_309, h_311⟩ := hm_306.obj e_259
        obtain ⟨z_312, z_313, z_314, z_315, rfl⟩ := smX6 h_311
        obtain ⟨f_317, e_316⟩ := hm_306.arrI e_260
        have hsm := hsm.tr (hm_306.mono (by decide))
        have hlp_6 := hlp_6.tr (hm_306.mono (by decide))
        have hlp_307 := hm_306
        have hl : lv_has ls 3 [(2, .int 0), (0, .ref tp)] := hl
        refine lv_iload_n hx hb dX6_advance_88 rfl (lv_at hl 0 rfl) ?_
        refine lv_if_eq (tgt := 134) hx hb dX6_advance_89 (by decide) (fun c_318 => ?_) (fun c_318 => absurd (by decide) c_318)
        exact W.vret hx hb hr (fun t ht hW => ⟨⟨(), rfl, trivial, ws_305, tys, hsm, htx, by rw [ht]; exact hP, va_K.moved hW.alike hK, hD, ⟨k_248, a_2, e9_303, by omega, by omega, by omega, e_308⟩⟩, hS.F ht⟩) hS.2.2 dX6_advance_134
      have d_319 := n_eq (a := k_248) (b := 2) (by omega) (by omega) c_300
      refine lv_iconst (v := 1) hx hb dX6_advance_82 (by decide) ?_
      refine lv_goto (tgt := 87) hx hb dX6_advance_83 (by decide) ?_
      refine lv_istore_n (lv' := [(2, .int 1), (1, .int (nI a_2)), (0, .ref tp)]) hx hb dX6_advance_87 rfl hl (by decide) rfl (fun ls hl => ?_)
      refine lp_V (nL := 3) (σ := Nat) (lv := fun x9 => [(2, .int 1), (0, .ref tp)]) (μ := fun x9 => tl - x9) (J := fun x9 ws9 => sm [6] ws_257 ws9 ∧ (ws9[ktp]? = some (tp, .inr (6, [.int (nI tl), .int (nI k_248), .int (nI a_2), .int (nI x9), .ref bb]))) ∧ (a_2 ≤ x9 ∧ x9 ≤ tl)) (fun x9 ws_323 H locs ls hj hP hD hS hl ih_320 => ?_) (a_2 + 1) ws_257 _ _ ls ⟨sm.rf _, e_259, (show a_2 ≤ (a_2 + 1) ∧ (a_2 + 1) ≤ tl from by omega)⟩ hP hD hS (lv_sub hl [0, 2] rfl)
      obtain ⟨e9_321, hx9⟩ : ∃ y9, y9 = x9 := ⟨_, rfl⟩
      subst hx9
      have hj : sm [6] ws_257 ws_323 ∧ (ws_323[ktp]? = some (tp, .inr (6, [.int (nI tl), .int (nI k_248), .int (nI a_2), .int (nI e9_321), .ref bb]))) ∧ (a_2 ≤ e9_321 ∧ e9_321 ≤ tl) := hj
      obtain ⟨hm_324, e_326, he_322⟩ := hj
      obtain ⟨g_328, e_327, h_329⟩ := hm_324.obj e_259
      obtain ⟨z_330, z_331, z_332, z_333, rfl⟩ := smX6 h_329
      obtain ⟨f_335, e_334⟩ := hm_324.arrI e_260
      have hsm := hsm.tr (hm_324.mono (by decide))
      have hlp_6 := hlp_6.tr (hm_324.mono (by decide))
      have hlp_325 := hm_324
      have hl : lv_has ls 3 [(2, .int 1), (0, .ref tp)] := hl
      refine lv_iload_n hx hb dX6_advance_88 rfl (lv_at hl 0 rfl) ?_
      refine lv_if_eq (tgt := 134) hx hb dX6_advance_89 (by decide) (fun c_336 => absurd c_336 (by decide)) (fun c_336 => ?_)
      refine lv_aload_n hx hb dX6_advance_92 rfl (lv_at hl 1 rfl) ?_
      refine va_get (D := D) (ci := 6) (v := .int (nI e9_321)) (C := RX6) (T := TX6) (N := 5) hx hb hts hin6 hown hK hP ktp e_326 rfl 3 (by decide) (hts (.fieldLink RX6 19 "HoneyHouse$Tape" "end" "I") (List.mem_of_getElem? (i := 1) rfl)) (fun _ h9 => h9) rfl dX6_advance_93 ?_
      refine lv_aload_n hx hb dX6_advance_96 rfl (lv_at hl 1 rfl) ?_
      refine va_get (D := D) (ci := 6) (v := .int (nI tl)) (C := RX6) (T := TX6) (N := 5) hx hb hts hin6 hown hK hP ktp e_326 rfl 0 (by decide) (hts (.fieldLink RX6 15 "HoneyHouse$Tape" "length" "I") (List.mem_of_getElem? (i := 2) rfl)) (fun _ h9 => h9) rfl dX6_advance_97 ?_
      refine lv_icmp_ge (tgt := 134) hx hb dX6_advance_100 (by decide) (fun c_337 => ?_) (fun c_337 => ?_)
      · have d_338 := n_le (a := tl) (b := e9_321) (by omega) (by omega) c_337
        exact W.vret hx hb hr (fun t ht hW => ⟨⟨(), rfl, trivial, ws_323, tys, hsm, htx, by rw [ht]; exact hP, va_K.moved hW.alike hK, hD, ⟨k_248, a_2, e9_321, by omega, by omega, by omega, e_326⟩⟩, hS.F ht⟩) hS.2.2 dX6_advance_134
      have d_339 := n_nle (a := tl) (b := e9_321) (by omega) (by omega) c_337
      refine lv_aload_n hx hb dX6_advance_103 rfl (lv_at hl 1 rfl) ?_
      refine lv_aload_n hx hb dX6_advance_104 rfl (lv_at hl 1 rfl) ?_
      refine va_get (D := D) (ci := 6) (v := .int (nI e9_321)) (C := RX6) (T := TX6) (N := 5) hx hb hts hin6 hown hK hP ktp e_326 rfl 3 (by decide) (hts (.fieldLink RX6 19 "HoneyHouse$Tape" "end" "I") (List.mem_of_getElem? (i := 1) rfl)) (fun _ h9 => h9) rfl dX6_advance_105 ?_
      refine vp_callSi (W.runV (As := [.int (nI e9_321)]) (rest := []) ⟨hx, hb, hml, hown, hts⟩ (s_byteAt l D ws_323 tys tp ktp tl (nI k_248) (nI a_2) (nI e9_321) bb kbb cbb tbb f_335 (nI e9_321) e_326 e_334 ubb) (cwV 1 hts gX6_advance_X6_byteAt rfl rfl rfl (by decide +kernel) ⟨Nat.le_of_ble_eq_true rfl, Nat.le_of_ble_eq_true rfl⟩) ⟨fun a U g mk q => ⟨q.1, q.2.1, va_K.moved (u := U) (U := U.calling g mk a) (Vm.Alike.refl U.vm) q.2.2⟩, va_recv hK hP (ci := 6) (q0 := ktp) rfl e_326, fun U hU hW => ⟨rfl, by rw [hU]; exact hP, va_K.moved hW.alike hK⟩⟩ rfl rfl hl.1 rfl (lv_room (Nat.le_of_ble_eq_true rfl)) dX6_advance_108 ⟨Nat.le_of_ble_eq_true rfl, Nat.le_of_ble_eq_true rfl⟩) (fun r_340 k_341 => ?_)
      refine vp_callSi (W.runS (As := [.int r_340]) (rest := []) ⟨hx, hb, hml, hown, hts⟩ (s_kindOf l r_340) (va_cwS 1 hts gX6_advance_X6_kindOf rfl rfl rfl (by decide +kernel) ⟨Nat.le_of_ble_eq_true rfl, Nat.le_of_ble_eq_true rfl⟩) ⟨fun a U g mk q => q, fun U hU hW => ⟨rfl, trivial⟩⟩ rfl rfl hl.1 rfl (lv_room (Nat.le_of_ble_eq_true rfl)) dX6_advance_111 ⟨Nat.le_of_ble_eq_true rfl, Nat.le_of_ble_eq_true rfl⟩) (fun r_342 k_343 => ?_)
      obtain ⟨hk_344, k_345, hk_346, rfl⟩ := k_343
      refine lv_aload_n hx hb dX6_advance_114 rfl (lv_at hl 1 rfl) ?_
      refine va_get (D := D) (ci := 6) (v := .int (nI k_248)) (C := RX6) (T := TX6) (N := 5) hx hb hts hin6 hown hK hP ktp e_326 rfl 1 (by decide) (hts (.fieldLink RX6 35 "HoneyHouse$Tape" "kind" "I") (List.mem_of_getElem? (i := 4) rfl)) (fun _ h9 => h9) rfl dX6_advance_115 ?_
      refine lv_icmp_ne (tgt := 134) hx hb dX6_advance_118 (by decide) (fun c_347 => ?_) (fun c_347 => ?_)
      · have d_348 := n_ne (a := k_345) (b := k_248) (by omega) (by omega) c_347
        exact W.vret hx hb hr (fun t ht hW => ⟨⟨(), rfl, trivial, ws_323, tys, hsm, htx, by rw [ht]; exact hP, va_K.moved hW.alike hK, hD, ⟨k_248, a_2, e9_321, by omega, by omega, by omega, e_326⟩⟩, hS.F ht⟩) hS.2.2 dX6_advance_134
      have d_349 := n_eq (a := k_345) (b := k_248) (by omega) (by omega) c_347
      refine lv_aload_n hx hb dX6_advance_121 rfl (lv_at hl 1 rfl) ?_
      refine lv_dup hx hb dX6_advance_122 rfl ?_
      refine va_get (D := D) (ci := 6) (v := .int (nI e9_321)) (C := RX6) (T := TX6) (N := 5) hx hb hts hin6 hown hK hP ktp e_326 rfl 3 (by decide) (hts (.fieldLink RX6 19 "HoneyHouse$Tape" "end" "I") (List.mem_of_getElem? (i := 1) rfl)) (fun _ h9 => h9) rfl dX6_advance_123 ?_
      refine lv_iconst (v := 1) hx hb dX6_advance_126 (by decide) ?_
      refine lv_iadd hx hb dX6_advance_127 ?_
      refine tp_i (y := nI (e9_321 + 1)) (nI_add e9_321 1) ?_
      refine va_put (D := D) (ci := 6) (v := .int (nI (e9_321 + 1))) (ty := .int) (C := RX6) (T := TX6) (N := 5) hx hb hts hin6 tyX6 tyX6_ok nmX6 hown hK hP hD hS ktp e_326 rfl 3 (by decide) (hts (.fieldLink RX6 19 "HoneyHouse$Tape" "end" "I") (List.mem_of_getElem? (i := 1) rfl)) (fun _ h9 => h9) rfl (tyX6_ok 3 (by decide)) rfl rfl (Nat.le_of_ble_eq_true rfl) dX6_advance_128 (fun H locs hP hD hS => ?_)
      have hP : va_P D vwCl (ws_323.set ktp (tp, .inr (6, [.int (nI tl), .int (nI k_248), .int (nI a_2), .int (nI (e9_321 + 1)), .ref bb]))) H := hP
      have hD : va_D A (ws_323.set ktp (tp, .inr (6, [.int (nI tl), .int (nI k_248), .int (nI a_2), .int (nI (e9_321 + 1)), .ref bb]))) := hD
      have hm_351 : sm [6] ws_323 (ws_323.set ktp (tp, .inr (6, [.int (nI tl), .int (nI k_248), .int (nI a_2), .int (nI (e9_321 + 1)), .ref bb]))) := sm.flds e_326 (smF.c (smV.rf _) (smF.c (smV.rf _) (smF.c (smV.rf _) (smF.c (smV.i _ _) (smF.c (smV.rf _) (rfl)))))) (List.mem_singleton.mpr rfl)
      have e_352 : (ws_323.set ktp (tp, .inr (6, [.int (nI tl), .int (nI k_248), .int (nI a_2), .int (nI (e9_321 + 1)), .ref bb])))[ktp]? = some (tp, .inr (6, [.int (nI tl), .int (nI k_248), .int (nI a_2), .int (nI (e9_321 + 1)), .ref bb])) := wset_self e_326
      generalize ws_323.set ktp (tp, .inr (6, [.int (nI tl), .int (nI k_248), .int (nI a_2), .int (nI (e9_321 + 1)), .ref bb])) = ws_350 at hP hD hm_351 e_352
      obtain ⟨f_354, e_353⟩ := hm_351.arrI e_334
      have hsm := hsm.tr (hm_351.mono (by decide))
      have hlp_6 := hlp_6.tr (hm_351.mono (by decide))
      have hlp_325 := hlp_325.tr (hm_351.mono (by decide))
      refine lv_goto (tgt := 88) hx hb dX6_advance_131 (by decide) ?_
      exact ih_320 (e9_321 + 1) ws_350 _ _ ls (by show tl - (e9_321 + 1) < tl - e9_321; omega) ⟨hlp_325, e_352, (show a_2 ≤ (e9_321 + 1) ∧ (e9_321 + 1) ≤ tl from by omega)⟩ hP hD hS (lv_sub hl [0, 1] rfl)
    have d_355 := n_eq (a := k_248) (b := 0) (by omega) (by omega) c_255
    refine lv_iload_n hx hb dX6_advance_56 rfl (lv_at hl 0 rfl) ?_
    refine lv_goto (tgt := 63) hx hb dX6_advance_57 (by decide) ?_
    refine va_put (D := D) (ci := 6) (v := .int (nI a_2)) (ty := .int) (C := RX6) (T := TX6) (N := 5) hx hb hts hin6 tyX6 tyX6_ok nmX6 hown hK hP hD hS ktp e_252 rfl 3 (by decide) (hts (.fieldLink RX6 19 "HoneyHouse$Tape" "end" "I") (List.mem_of_getElem? (i := 1) rfl)) (fun _ h9 => h9) rfl (tyX6_ok 3 (by decide)) rfl rfl (Nat.le_of_ble_eq_true rfl) dX6_advance_63 (fun H locs hP hD hS => ?_)
    have hP : va_P D vwCl (ws_250.set ktp (tp, .inr (6, [.int (nI tl), .int (nI k_248), .int (nI a_2), .int (nI a_2), .ref bb]))) H := hP
    have hD : va_D A (ws_250.set ktp (tp, .inr (6, [.int (nI tl), .int (nI k_248), .int (nI a_2), .int (nI a_2), .ref bb]))) := hD
    have hm_357 : sm [6] ws_250 (ws_250.set ktp (tp, .inr (6, [.int (nI tl), .int (nI k_248), .int (nI a_2), .int (nI a_2), .ref bb]))) := sm.flds e_252 (smF.c (smV.rf _) (smF.c (smV.rf _) (smF.c (smV.rf _) (smF.c (smV.i _ _) (smF.c (smV.rf _) (rfl)))))) (List.mem_singleton.mpr rfl)
    have e_358 : (ws_250.set ktp (tp, .inr (6, [.int (nI tl), .int (nI k_248), .int (nI a_2), .int (nI a_2), .ref bb])))[ktp]? = some (tp, .inr (6, [.int (nI tl), .int (nI k_248), .int (nI a_2), .int (nI a_2), .ref bb])) := wset_self e_252
    generalize ws_250.set ktp (tp, .inr (6, [.int (nI tl), .int (nI k_248), .int (nI a_2), .int (nI a_2), .ref bb])) = ws_356 at hP hD hm_357 e_358
    obtain ⟨f_360, e_359⟩ := hm_357.arrI e_253
    have hsm := hsm.tr (hm_357.mono (by decide))
    have hlp_6 := hlp_6.tr (hm_357.mono (by decide))
    refine lv_aload_n hx hb dX6_advance_66 rfl (lv_at hl 1 rfl) ?_
    refine va_get (D := D) (ci := 6) (v := .int (nI k_248)) (C := RX6) (T := TX6) (N := 5) hx hb hts hin6 hown hK hP ktp e_358 rfl 1 (by decide) (hts (.fieldLink RX6 35 "HoneyHouse$Tape" "kind" "I") (List.mem_of_getElem? (i := 4) rfl)) (fun _ h9 => h9) rfl dX6_advance_67 ?_
    refine lv_iconst (v := 1) hx hb dX6_advance_70 (by decide) ?_
    refine lv_icmp_eq (tgt := 82) hx hb dX6_advance_71 (by decide) (fun c_361 => ?_) (fun c_361 => ?_)
    · have d_362 := n_eq (a := k_248) (b := 1) (by omega) (by omega) c_361
      refine lv_iconst (v := 1) hx hb dX6_advance_82 (by decide) ?_
      refine lv_goto (tgt := 87) hx hb dX6_advance_83 (by decide) ?_
      refine lv_istore_n (lv' := [(2, .int 1), (1, .int (nI a_2)), (0, .ref tp)]) hx hb dX6_advance_87 rfl hl (by decide) rfl (fun ls hl => ?_)
      refine lp_V (nL := 3) (σ := Nat) (lv := fun x9 => [(2, .int 1), (0, .ref tp)]) (μ := fun x9 => tl - x9) (J := fun x9 ws9 => sm [6] ws_356 ws9 ∧ (ws9[ktp]? = some (tp, .inr (6, [.int (nI tl), .int (nI k_248), .int (nI a_2), .int (nI x9), .ref bb]))) ∧ (a_2 ≤ x9 ∧ x9 ≤ tl)) (fun x9 ws_366 H locs ls hj hP hD hS hl ih_363 => ?_) a_2 ws_356 _ _ ls ⟨sm.rf _, e_358, (show a_2 ≤ a_2 ∧ a_2 ≤ tl from by omega)⟩ hP hD hS (lv_sub hl [0, 2] rfl)
      obtain ⟨e9_364, hx9⟩ : ∃ y9, y9 = x9 := ⟨_, rfl⟩
      subst hx9
      have hj : sm [6] ws_356 ws_366 ∧ (ws_366[ktp]? = some (tp, .inr (6, [.int (nI tl), .int (nI k_248), .int (nI a_2), .int (nI e9_364), .ref bb]))) ∧ (a_2 ≤ e9_364 ∧ e9_364 ≤ tl) := hj
      obtain ⟨hm_367, e_369, he_365⟩ := hj
      obtain ⟨g_371, e_370, h_372⟩ := hm_367.obj e_358
      obtain ⟨z_373, z_374, z_375, z_376, rfl⟩ := smX6 h_372
      obtain ⟨f_378, e_377⟩ := hm_367.arrI e_359
      have hsm := hsm.tr (hm_367.mono (by decide))
      have hlp_6 := hlp_6.tr (hm_367.mono (by decide))
      have hlp_368 := hm_367
      have hl : lv_has ls 3 [(2, .int 1), (0, .ref tp)] := hl
      refine lv_iload_n hx hb dX6_advance_88 rfl (lv_at hl 0 rfl) ?_
      refine lv_if_eq (tgt := 134) hx hb dX6_advance_89 (by decide) (fun c_379 => absurd c_379 (by decide)) (fun c_379 => ?_)
      refine lv_aload_n hx hb dX6_advance_92 rfl (lv_at hl 1 rfl) ?_
      refine va_get (D := D) (ci := 6) (v := .int (nI e9_364)) (C := RX6) (T := TX6) (N := 5) hx hb hts hin6 hown hK hP ktp e_369 rfl 3 (by decide) (hts (.fieldLink RX6 19 "HoneyHouse$Tape" "end" "I") (List.mem_of_getElem? (i := 1) rfl)) (fun _ h9 => h9) rfl dX6_advance_93 ?_
      refine lv_aload_n hx hb dX6_advance_96 rfl (lv_at hl 1 rfl) ?_
      refine va_get (D := D) (ci := 6) (v := .int (nI tl)) (C := RX6) (T := TX6) (N := 5) hx hb hts hin6 hown hK hP ktp e_369 rfl 0 (by decide) (hts (.fieldLink RX6 15 "HoneyHouse$Tape" "length" "I") (List.mem_of_getElem? (i := 2) rfl)) (fun _ h9 => h9) rfl dX6_advance_97 ?_
      refine lv_icmp_ge (tgt := 134) hx hb dX6_advance_100 (by decide) (fun c_380 => ?_) (fun c_380 => ?_)
      · have d_381 := n_le (a := tl) (b := e9_364) (by omega) (by omega) c_380
        exact W.vret hx hb hr (fun t ht hW => ⟨⟨(), rfl, trivial, ws_366, tys, hsm, htx, by rw [ht]; exact hP, va_K.moved hW.alike hK, hD, ⟨k_248, a_2, e9_364, by omega, by omega, by omega, e_369⟩⟩, hS.F ht⟩) hS.2.2 dX6_advance_134
      have d_382 := n_nle (a := tl) (b := e9_364) (by omega) (by omega) c_380
      refine lv_aload_n hx hb dX6_advance_103 rfl (lv_at hl 1 rfl) ?_
      refine lv_aload_n hx hb dX6_advance_104 rfl (lv_at hl 1 rfl) ?_
      refine va_get (D := D) (ci := 6) (v := .int (nI e9_364)) (C := RX6) (T := TX6) (N := 5) hx hb hts hin6 hown hK hP ktp e_369 rfl 3 (by decide) (hts (.fieldLink RX6 19 "HoneyHouse$Tape" "end" "I") (List.mem_of_getElem? (i := 1) rfl)) (fun _ h9 => h9) rfl dX6_advance_105 ?_
      refine vp_callSi (W.runV (As := [.int (nI e9_364)]) (rest := []) ⟨hx, hb, hml, hown, hts⟩ (s_byteAt l D ws_366 tys tp ktp tl (nI k_248) (nI a_2) (nI e9_364) bb kbb cbb tbb f_378 (nI e9_364) e_369 e_377 ubb) (cwV 1 hts gX6_advance_X6_byteAt rfl rfl rfl (by decide +kernel) ⟨Nat.le_of_ble_eq_true rfl, Nat.le_of_ble_eq_true rfl⟩) ⟨fun a U g mk q => ⟨q.1, q.2.1, va_K.moved (u := U) (U := U.calling g mk a) (Vm.Alike.refl U.vm) q.2.2⟩, va_recv hK hP (ci := 6) (q0 := ktp) rfl e_369, fun U hU hW => ⟨rfl, by rw [hU]; exact hP, va_K.moved hW.alike hK⟩⟩ rfl rfl hl.1 rfl (lv_room (Nat.le_of_ble_eq_true rfl)) dX6_advance_108 ⟨Nat.le_of_ble_eq_true rfl, Nat.le_of_ble_eq_true rfl⟩) (fun r_383 k_384 => ?_)
      refine vp_callSi (W.runS (As := [.int r_383]) (rest := []) ⟨hx, hb, hml, hown, hts⟩ (s_kindOf l r_383) (va_cwS 1 hts gX6_advance_X6_kindOf rfl rfl rfl (by decide +kernel) ⟨Nat.le_of_ble_eq_true rfl, Nat.le_of_ble_eq_true rfl⟩) ⟨fun a U g mk q => q, fun U hU hW => ⟨rfl, trivial⟩⟩ rfl rfl hl.1 rfl (lv_room (Nat.le_of_ble_eq_true rfl)) dX6_advance_111 ⟨Nat.le_of_ble_eq_true rfl, Nat.le_of_ble_eq_true rfl⟩) (fun r_385 k_386 => ?_)
      obtain ⟨hk_387, k_388, hk_389, rfl⟩ := k_386
      refine lv_aload_n hx hb dX6_advance_114 rfl (lv_at hl 1 rfl) ?_
      refine va_get (D := D) (ci := 6) (v := .int (nI k_248)) (C := RX6) (T := TX6) (N := 5) hx hb hts hin6 hown hK hP ktp e_369 rfl 1 (by decide) (hts (.fieldLink RX6 35 "HoneyHouse$Tape" "kind" "I") (List.mem_of_getElem? (i := 4) rfl)) (fun _ h9 => h9) rfl dX6_advance_115 ?_
      refine lv_icmp_ne (tgt := 134) hx hb dX6_advance_118 (by decide) (fun c_390 => ?_) (fun c_390 => ?_)
      · have d_391 := n_ne (a := k_388) (b := k_248) (by omega) (by omega) c_390
        exact W.vret hx hb hr (fun t ht hW => ⟨⟨(), rfl, trivial, ws_366, tys, hsm, htx, by rw [ht]; exact hP, va_K.moved hW.alike hK, hD, ⟨k_248, a_2, e9_364, by omega, by omega, by omega, e_369⟩⟩, hS.F ht⟩) hS.2.2 dX6_advance_134
      have d_392 := n_eq (a := k_388) (b := k_248) (by omega) (by omega) c_390
      refine lv_aload_n hx hb dX6_advance_121 rfl (lv_at hl 1 rfl) ?_
      refine lv_dup hx hb dX6_advance_122 rfl ?_
      refine va_get (D := D) (ci := 6) (v := .int (nI e9_364)) (C := RX6) (T := TX6) (N := 5) hx hb hts hin6 hown hK hP ktp e_369 rfl 3 (by decide) (hts (.fieldLink RX6 19 "HoneyHouse$Tape" "end" "I") (List.mem_of_getElem? (i := 1) rfl)) (fun _ h9 => h9) rfl dX6_advance_123 ?_
      refine lv_iconst (v := 1) hx hb dX6_advance_126 (by decide) ?_
      refine lv_iadd hx hb dX6_advance_127 ?_
      refine tp_i (y := nI (e9_364 + 1)) (nI_add e9_364 1) ?_
      refine va_put (D := D) (ci := 6) (v := .int (nI (e9_364 + 1))) (ty := .int) (C := RX6) (T := TX6) (N := 5) hx hb hts hin6 tyX6 tyX6_ok nmX6 hown hK hP hD hS ktp e_369 rfl 3 (by decide) (hts (.fieldLink RX6 19 "HoneyHouse$Tape" "end" "I") (List.mem_of_getElem? (i := 1) rfl)) (fun _ h9 => h9) rfl (tyX6_ok 3 (by decide)) rfl rfl (Nat.le_of_ble_eq_true rfl) dX6_advance_128 (fun H locs hP hD hS => ?_)
      have hP : va_P D vwCl (ws_366.set ktp (tp, .inr (6, [.int (nI tl), .int (nI k_248), .int (nI a_2), .int (nI (e9_364 + 1)), .ref bb]))) H := hP
      have hD : va_D A (ws_366.set ktp (tp, .inr (6, [.int (nI tl), .int (nI k_248), .int (nI a_2), .int (nI (e9_364 + 1)), .ref bb]))) := hD
      have hm_394 : sm [6] ws_366 (ws_366.set ktp (tp, .inr (6, [.int (nI tl), .int (nI k_248), .int (nI a_2), .int (nI (e9_364 + 1)), .ref bb]))) := sm.flds e_369 (smF.c (smV.rf _) (smF.c (smV.rf _) (smF.c (smV.rf _) (smF.c (smV.i _ _) (smF.c (smV.rf _) (rfl)))))) (List.mem_singleton.mpr rfl)
      have e_395 : (ws_366.set ktp (tp, .inr (6, [.int (nI tl), .int (nI k_248), .int (nI a_2), .int (nI (e9_364 + 1)), .ref bb])))[ktp]? = some (tp, .inr (6, [.int (nI tl), .int (nI k_248), .int (nI a_2), .int (nI (e9_364 + 1)), .ref bb])) := wset_self e_369
      generalize ws_366.set ktp (tp, .inr (6, [.int (nI tl), .int (nI k_248), .int (nI a_2), .int (nI (e9_364 + 1)), .ref bb])) = ws_393 at hP hD hm_394 e_395
      obtain ⟨f_397, e_396⟩ := hm_394.arrI e_377
      have hsm := hsm.tr (hm_394.mono (by decide))
      have hlp_6 := hlp_6.tr (hm_394.mono (by decide))
      have hlp_368 := hlp_368.tr (hm_394.mono (by decide))
      refine lv_goto (tgt := 88) hx hb dX6_advance_131 (by decide) ?_
      exact ih_363 (e9_364 + 1) ws_393 _ _ ls (by show tl - (e9_364 + 1) < tl - e9_364; omega) ⟨hlp_368, e_395, (show a_2 ≤ (e9_364 + 1) ∧ (e9_364 + 1) ≤ tl from by omega)⟩ hP hD hS (lv_sub hl [0, 1] rfl)
    have d_398 := n_ne (a := k_248) (b := 1) (by omega) (by omega) c_361
    refine lv_aload_n hx hb dX6_advance_74 rfl (lv_at hl 1 rfl) ?_
    refine va_get (D := D) (ci := 6) (v := .int (nI k_248)) (C := RX6) (T := TX6) (N := 5) hx hb hts hin6 hown hK hP ktp e_358 rfl 1 (by decide) (hts (.fieldLink RX6 35 "HoneyHouse$Tape" "kind" "I") (List.mem_of_getElem? (i := 4) rfl)) (fun _ h9 => h9) rfl dX6_advance_75 ?_
    refine lv_iconst (v := 2) hx hb dX6_advance_78 (by decide) ?_
    refine lv_icmp_ne (tgt := 86) hx hb dX6_advance_79 (by decide) (fun c_399 => ?_) (fun c_399 => ?_)
    · have d_400 := n_ne (a := k_248) (b := 2) (by omega) (by omega) c_399
      refine lv_iconst (v := 0) hx hb dX6_advance_86 (by decide) ?_
      refine lv_istore_n (lv' := [(2, .int 0), (1, .int (nI a_2)), (0, .ref tp)]) hx hb dX6_advance_87 rfl hl (by decide) rfl (fun ls hl => ?_)
      refine lp_V (nL := 3) (σ := Nat) (lv := fun x9 => [(2, .int 0), (0, .ref tp)]) (μ := fun x9 => tl - x9) (J := fun x9 ws9 => sm [6] ws_356 ws9 ∧ (ws9[ktp]? = some (tp, .inr (6, [.int (nI tl), .int (nI k_248), .int (nI a_2), .int (nI x9), .ref bb]))) ∧ (a_2 ≤ x9 ∧ x9 ≤ tl)) (fun x9 ws_404 H locs ls hj hP hD hS hl ih_401 => ?_) a_2 ws_356 _ _ ls ⟨sm.rf _, e_358, (show a_2 ≤ a_2 ∧ a_2 ≤ tl from by omega)⟩ hP hD hS (lv_sub hl [0, 2] rfl)
      obtain ⟨e9_402, hx9⟩ : ∃ y9, y9 = x9 := ⟨_, rfl⟩
      subst hx9
      have hj : sm [6] ws_356 ws_404 ∧ (ws_404[ktp]? = some (tp, .inr (6, [.int (nI tl), .int (nI k_248), .int (nI a_2), .int (nI e9_402), .ref bb]))) ∧ (a_2 ≤ e9_402 ∧ e9_402 ≤ tl) := hj
      obtain ⟨hm_405, e_407, he_403⟩ := hj
      obtain ⟨g_409, e_408, h_410⟩ := hm_405.obj e_358
      obtain ⟨z_411, z_412, z_413, z_414, rfl⟩ := smX6 h_410
      obtain ⟨f_416, e_415⟩ := hm_405.arrI e_359
      have hsm := hsm.tr (hm_405.mono (by decide))
      have hlp_6 := hlp_6.tr (hm_405.mono (by decide))
      have hlp_406 := hm_405
      have hl : lv_has ls 3 [(2, .int 0), (0, .ref tp)] := hl
      refine lv_iload_n hx hb dX6_advance_88 rfl (lv_at hl 0 rfl) ?_
      refine lv_if_eq (tgt := 134) hx hb dX6_advance_89 (by decide) (fun c_417 => ?_) (fun c_417 => absurd (by decide) c_417)
      exact W.vret hx hb hr (fun t ht hW => ⟨⟨(), rfl, trivial, ws_404, tys, hsm, htx, by rw [ht]; exact hP, va_K.moved hW.alike hK, hD, ⟨k_248, a_2, e9_402, by omega, by omega, by omega, e_407⟩⟩, hS.F ht⟩) hS.2.2 dX6_advance_134
    have d_418 := n_eq (a := k_248) (b := 2) (by omega) (by omega) c_399
    refine lv_iconst (v := 1) hx hb dX6_advance_82 (by decide) ?_
    refine lv_goto (tgt := 87) hx hb dX6_advance_83 (by decide) ?_
    refine lv_istore_n (lv' := [(2, .int 1), (1, .int (nI a_2)), (0, .ref tp)]) hx hb dX6_advance_87 rfl hl (by decide) rfl (fun ls hl => ?_)
    refine lp_V (nL := 3) (σ := Nat) (lv := fun x9 => [(2, .int 1), (0, .ref tp)]) (μ := fun x9 => tl - x9) (J := fun x9 ws9 => sm [6] ws_356 ws9 ∧ (ws9[ktp]? = some (tp, .inr (6, [.int (nI tl), .int (nI k_248), .int (nI a_2), .int (nI x9), .ref bb]))) ∧ (a_2 ≤ x9 ∧ x9 ≤ tl)) (fun x9 ws_422 H locs ls hj hP hD hS hl ih_419 => ?_) a_2 ws_356 _ _ ls ⟨sm.rf _, e_358, (show a_2 ≤ a_2 ∧ a_2 ≤ tl from by omega)⟩ hP hD hS (lv_sub hl [0, 2] rfl)
    obtain ⟨e9_420, hx9⟩ : ∃ y9, y9 = x9 := ⟨_, rfl⟩
    subst hx9
    have hj : sm [6] ws_356 ws_422 ∧ (ws_422[ktp]? = some (tp, .inr (6, [.int (nI tl), .int (nI k_248), .int (nI a_2), .int (nI e9_420), .ref bb]))) ∧ (a_2 ≤ e9_420 ∧ e9_420 ≤ tl) := hj
    obtain ⟨hm_423, e_425, he_421⟩ := hj
    obtain ⟨g_427, e_426, h_428⟩ := hm_423.obj e_358
    obtain ⟨z_429, z_430, z_431, z_432, rfl⟩ := smX6 h_428
    obtain ⟨f_434, e_433⟩ := hm_423.arrI e_359
    have hsm := hsm.tr (hm_423.mono (by decide))
    have hlp_6 := hlp_6.tr (hm_423.mono (by decide))
    have hlp_424 := hm_423
    have hl : lv_has ls 3 [(2, .int 1), (0, .ref tp)] := hl
    refine lv_iload_n hx hb dX6_advance_88 rfl (lv_at hl 0 rfl) ?_
    refine lv_if_eq (tgt := 134) hx hb dX6_advance_89 (by decide) (fun c_435 => absurd c_435 (by decide)) (fun c_435 => ?_)
    refine lv_aload_n hx hb dX6_advance_92 rfl (lv_at hl 1 rfl) ?_
    refine va_get (D := D) (ci := 6) (v := .int (nI e9_420)) (C := RX6) (T := TX6) (N := 5) hx hb hts hin6 hown hK hP ktp e_425 rfl 3 (by decide) (hts (.fieldLink RX6 19 "HoneyHouse$Tape" "end" "I") (List.mem_of_getElem? (i := 1) rfl)) (fun _ h9 => h9) rfl dX6_advance_93 ?_
    refine lv_aload_n hx hb dX6_advance_96 rfl (lv_at hl 1 rfl) ?_
    refine va_get (D := D) (ci := 6) (v := .int (nI tl)) (C := RX6) (T := TX6) (N := 5) hx hb hts hin6 hown hK hP ktp e_425 rfl 0 (by decide) (hts (.fieldLink RX6 15 "HoneyHouse$Tape" "length" "I") (List.mem_of_getElem? (i := 2) rfl)) (fun _ h9 => h9) rfl dX6_advance_97 ?_
    refine lv_icmp_ge (tgt := 134) hx hb dX6_advance_100 (by decide) (fun c_436 => ?_) (fun c_436 => ?_)
    · have d_437 := n_le (a := tl) (b := e9_420) (by omega) (by omega) c_436
      exact W.vret hx hb hr (fun t ht hW => ⟨⟨(), rfl, trivial, ws_422, tys, hsm, htx, by rw [ht]; exact hP, va_K.moved hW.alike hK, hD, ⟨k_248, a_2, e9_420, by omega, by omega, by omega, e_425⟩⟩, hS.F ht⟩) hS.2.2 dX6_advance_134
    have d_438 := n_nle (a := tl) (b := e9_420) (by omega) (by omega) c_436
    refine lv_aload_n hx hb dX6_advance_103 rfl (lv_at hl 1 rfl) ?_
    refine lv_aload_n hx hb dX6_advance_104 rfl (lv_at hl 1 rfl) ?_
    refine va_get (D := D) (ci := 6) (v := .int (nI e9_420)) (C := RX6) (T := TX6) (N := 5) hx hb hts hin6 hown hK hP ktp e_425 rfl 3 (by decide) (hts (.fieldLink RX6 19 "HoneyHouse$Tape" "end" "I") (List.mem_of_getElem? (i := 1) rfl)) (fun _ h9 => h9) rfl dX6_advance_105 ?_
    refine vp_callSi (W.runV (As := [.int (nI e9_420)]) (rest := []) ⟨hx, hb, hml, hown, hts⟩ (s_byteAt l D ws_422 tys tp ktp tl (nI k_248) (nI a_2) (nI e9_420) bb kbb cbb tbb f_434 (nI e9_420) e_425 e_433 ubb) (cwV 1 hts gX6_advance_X6_byteAt rfl rfl rfl (by decide +kernel) ⟨Nat.le_of_ble_eq_true rfl, Nat.le_of_ble_eq_true rfl⟩) ⟨fun a U g mk q => ⟨q.1, q.2.1, va_K.moved (u := U) (U := U.calling g mk a) (Vm.Alike.refl U.vm) q.2.2⟩, va_recv hK hP (ci := 6) (q0 := ktp) rfl e_425, fun U hU hW => ⟨rfl, by rw [hU]; exact hP, va_K.moved hW.alike hK⟩⟩ rfl rfl hl.1 rfl (lv_room (Nat.le_of_ble_eq_true rfl)) dX6_advance_108 ⟨Nat.le_of_ble_eq_true rfl, Nat.le_of_ble_eq_true rfl⟩) (fun r_439 k_440 => ?_)
    refine vp_callSi (W.runS (As := [.int r_439]) (rest := []) ⟨hx, hb, hml, hown, hts⟩ (s_kindOf l r_439) (va_cwS 1 hts gX6_advance_X6_kindOf rfl rfl rfl (by decide +kernel) ⟨Nat.le_of_ble_eq_true rfl, Nat.le_of_ble_eq_true rfl⟩) ⟨fun a U g mk q => q, fun U hU hW => ⟨rfl, trivial⟩⟩ rfl rfl hl.1 rfl (lv_room (Nat.le_of_ble_eq_true rfl)) dX6_advance_111 ⟨Nat.le_of_ble_eq_true rfl, Nat.le_of_ble_eq_true rfl⟩) (fun r_441 k_442 => ?_)
    obtain ⟨hk_443, k_444, hk_445, rfl⟩ := k_442
    refine lv_aload_n hx hb dX6_advance_114 rfl (lv_at hl 1 rfl) ?_
    refine va_get (D := D) (ci := 6) (v := .int (nI k_248)) (C := RX6) (T := TX6) (N := 5) hx hb hts hin6 hown hK hP ktp e_425 rfl 1 (by decide) (hts (.fieldLink RX6 35 "HoneyHouse$Tape" "kind" "I") (List.mem_of_getElem? (i := 4) rfl)) (fun _ h9 => h9) rfl dX6_advance_115 ?_
    refine lv_icmp_ne (tgt := 134) hx hb dX6_advance_118 (by decide) (fun c_446 => ?_) (fun c_446 => ?_)
    · have d_447 := n_ne (a := k_444) (b := k_248) (by omega) (by omega) c_446
      exact W.vret hx hb hr (fun t ht hW => ⟨⟨(), rfl, trivial, ws_422, tys, hsm, htx, by rw [ht]; exact hP, va_K.moved hW.alike hK, hD, ⟨k_248, a_2, e9_420, by omega, by omega, by omega, e_425⟩⟩, hS.F ht⟩) hS.2.2 dX6_advance_134
    have d_448 := n_eq (a := k_444) (b := k_248) (by omega) (by omega) c_446
    refine lv_aload_n hx hb dX6_advance_121 rfl (lv_at hl 1 rfl) ?_
    refine lv_dup hx hb dX6_advance_122 rfl ?_
    refine va_get (D := D) (ci := 6) (v := .int (nI e9_420)) (C := RX6) (T := TX6) (N := 5) hx hb hts hin6 hown hK hP ktp e_425 rfl 3 (by decide) (hts (.fieldLink RX6 19 "HoneyHouse$Tape" "end" "I") (List.mem_of_getElem? (i := 1) rfl)) (fun _ h9 => h9) rfl dX6_advance_123 ?_
    refine lv_iconst (v := 1) hx hb dX6_advance_126 (by decide) ?_
    refine lv_iadd hx hb dX6_advance_127 ?_
    refine tp_i (y := nI (e9_420 + 1)) (nI_add e9_420 1) ?_
    refine va_put (D := D) (ci := 6) (v := .int (nI (e9_420 + 1))) (ty := .int) (C := RX6) (T := TX6) (N := 5) hx hb hts hin6 tyX6 tyX6_ok nmX6 hown hK hP hD hS ktp e_425 rfl 3 (by decide) (hts (.fieldLink RX6 19 "HoneyHouse$Tape" "end" "I") (List.mem_of_getElem? (i := 1) rfl)) (fun _ h9 => h9) rfl (tyX6_ok 3 (by decide)) rfl rfl (Nat.le_of_ble_eq_true rfl) dX6_advance_128 (fun H locs hP hD hS => ?_)
    have hP : va_P D vwCl (ws_422.set ktp (tp, .inr (6, [.int (nI tl), .int (nI k_248), .int (nI a_2), .int (nI (e9_420 + 1)), .ref bb]))) H := hP
    have hD : va_D A (ws_422.set ktp (tp, .inr (6, [.int (nI tl), .int (nI k_248), .int (nI a_2), .int (nI (e9_420 + 1)), .ref bb]))) := hD
    have hm_450 : sm [6] ws_422 (ws_422.set ktp (tp, .inr (6, [.int (nI tl), .int (nI k_248), .int (nI a_2), .int (nI (e9_420 + 1)), .ref bb]))) := sm.flds e_425 (smF.c (smV.rf _) (smF.c (smV.rf _) (smF.c (smV.rf _) (smF.c (smV.i _ _) (smF.c (smV.rf _) (rfl)))))) (List.mem_singleton.mpr rfl)
    have e_451 : (ws_422.set ktp (tp, .inr (6, [.int (nI tl), .int (nI k_248), .int (nI a_2), .int (nI (e9_420 + 1)), .ref bb])))[ktp]? = some (tp, .inr (6, [.int (nI tl), .int (nI k_248), .int (nI a_2), .int (nI (e9_420 + 1)), .ref bb])) := wset_self e_425
    generalize ws_422.set ktp (tp, .inr (6, [.int (nI tl), .int (nI k_248), .int (nI a_2), .int (nI (e9_420 + 1)), .ref bb])) = ws_449 at hP hD hm_450 e_451
    obtain ⟨f_453, e_452⟩ := hm_450.arrI e_433
    have hsm := hsm.tr (hm_450.mono (by decide))
    have hlp_6 := hlp_6.tr (hm_450.mono (by decide))
    have hlp_424 := hlp_424.tr (hm_450.mono (by decide))
    refine lv_goto (tgt := 88) hx hb dX6_advance_131 (by decide) ?_
    exact ih_419 (e9_420 + 1) ws_449 _ _ ls (by show tl - (e9_420 + 1) < tl - e9_420; omega) ⟨hlp_424, e_451, (show a_2 ≤ (e9_420 + 1) ∧ (e9_420 + 1) ≤ tl from by omega)⟩ hP hD hS (lv_sub hl [0, 1] rfl)
  have d_454 := n_eq (a := k_234) (b := 3) (by omega) (by omega) c_236
  refine lv_iinc (v := nI (a_2 + 1)) (lv' := [(1, .int (nI (a_2 + 1))), (0, .ref tp)]) hx hb dX6_advance_25 hl (k := 0) rfl (nI_add a_2 1) (by decide) rfl (fun ls hl => ?_)
  refine lv_goto (tgt := 5) hx hb dX6_advance_28 (by decide) ?_
  exact ih_1 (a_2 + 1) ws_4 _ _ ls (by show tl - (a_2 + 1) < tl - a_2; omega) ⟨hlp_6, (show te ≤ (a_2 + 1) ∧ (a_2 + 1) ≤ tl from by omega)⟩ hP hD hS (lv_sub hl [0, 1] rfl)
set_option maxHeartbeats 4000000 in
set_option maxRecDepth 100000 in
theorem a_rewind (l : Launch) (D : va_G) (ws : va_W) (tys : List (ClassId × FieldType)) (tp ktp tl : Nat) (x1 x2 x3 : Int32) (bb kbb : Nat) (cbb : ClassId) (tbb : Nat) (fbb : Nat → Int32) (sz : Nat) (htl : tl ≤ 400) (etp : ws[ktp]? = some (tp, .inr (6, [.int (nI tl), .int x1, .int x2, .int x3, .ref bb]))) (ebb : ws[kbb]? = some (bb, .inl (cbb, 400, .inl fbb))) (ubb : tys[tbb]? = some (cbb, .int)) : Met l yX6_rewind wsX6_rewind ({ frames := 2, cells := 0, slots := 0, locals := 43 }) (va_Pc [.ref tp] (fun U => U.heap.size = sz ∧ va_P D vwCl ws U.heap ∧ va_K D vwCl tys U ∧ va_D (fun _ => True) ws)) (va_Qv (fun _ : Unit => True) (fun (_ : Unit) (t : State) => ∃ (ws' : va_W) (tys' : List (ClassId × FieldType)), sm [6] ws ws' ∧ tyx tys tys' ∧ va_P D vwCl ws' t.heap ∧ va_K D vwCl tys' t ∧ va_D (va_A ws sz) ws' ∧ ∃ k s2 e2 : Nat, k ≤ 4 ∧ s2 ≤ e2 ∧ e2 ≤ tl ∧ ws'[ktp]? = some (tp, .inr (6, [.int (nI tl), .int (nI k), .int (nI s2), .int (nI e2), .ref bb]))) (va_A ws sz)) 0 0 (va_A ws sz) := by
  refine Met.ofW (cc := cX6_rewind) (maxL := 1) (ret := none) (by decide) rfl ?_
  intro p e s m args below meth c s₁ B hml hv
  obtain ⟨rfl, hsz, hP, hK, hD0⟩ := hv
  have hx := B.exec
  have hb := B.bytes
  have hr := B.returns
  have hts := atoms_spec (ws := wsX6_rewind) B.pre
  have hown : s.vm.findClass RX6 = some m.cls := findClass_of_methodNamed B.named
  have hlocks := B.notSynchronized
  subst hsz
  have hD := hD0.self (sz := s.heap.size)
  generalize hAe : va_A ws s.heap.size = A at hD ⊢
  have hA : ∀ q : Nat, s.heap.size ≤ q → A q := fun q h => by rw [← hAe]; exact Or.inr h
  have hS : va_S A s.heap s.heap [] := va_S.rf
  have hsm : sm [6] ws ws := sm.rf ws
  have htx : tyx tys tys := tyx.rf tys
  have hin6 : ∀ w ∈ u_ws RX6 TX6 5, w ∈ wsX6_rewind := (fun _ h9 => List.mem_cons_of_mem _ ((List.mem_append_right _ h9)))
  have hl := lv_entry ([.ref tp]) (n := 1) (Nat.le_of_ble_eq_true rfl)
  rw [lg_entry_eq]
  generalize (lg_sl ([.ref tp]) ++ List.replicate (1 - (lg_sl ([.ref tp])).length) Slot.unset).toArray = ls at hl ⊢
  have hl : lv_has ls 1 [(0, .ref tp)] := hl
  refine lv_aload_n hx hb dX6_rewind_0 rfl (lv_at hl 0 rfl) ?_
  refine lv_iconst (v := 0) hx hb dX6_rewind_1 (by decide) ?_
  refine va_put (D := D) (ci := 6) (v := .int 0) (ty := .int) (C := RX6) (T := TX6) (N := 5) hx hb hts hin6 tyX6 tyX6_ok nmX6 hown hK hP hD hS ktp etp rfl 3 (by decide) (hts (.fieldLink RX6 19 "HoneyHouse$Tape" "end" "I") (List.mem_of_getElem? (i := 1) rfl)) (fun _ h9 => h9) rfl (tyX6_ok 3 (by decide)) rfl rfl (Nat.le_of_ble_eq_true rfl) dX6_rewind_2 (fun H locs hP hD hS => ?_)
  have hP : va_P D vwCl (ws.set ktp (tp, .inr (6, [.int (nI tl), .int x1, .int x2, .int 0, .ref bb]))) H := hP
  have hD : va_D A (ws.set ktp (tp, .inr (6, [.int (nI tl), .int x1, .int x2, .int 0, .ref bb]))) := hD
  have hm_2 : sm [6] ws (ws.set ktp (tp, .inr (6, [.int (nI tl), .int x1, .int x2, .int 0, .ref bb]))) := sm.flds etp (smF.c (smV.rf _) (smF.c (smV.rf _) (smF.c (smV.rf _) (smF.c (smV.i _ _) (smF.c (smV.rf _) (rfl)))))) (List.mem_singleton.mpr rfl)
  have e_3 : (ws.set ktp (tp, .inr (6, [.int (nI tl), .int x1, .int x2, .int 0, .ref bb])))[ktp]? = some (tp, .inr (6, [.int (nI tl), .int x1, .int x2, .int 0, .ref bb])) := wset_self etp
  generalize ws.set ktp (tp, .inr (6, [.int (nI tl), .int x1, .int x2, .int 0, .ref bb])) = ws_1 at hP hD hm_2 e_3
  obtain ⟨f_5, e_4⟩ := hm_2.arrI ebb
  have hsm := hsm.tr (hm_2.mono (by decide))
  refine lv_aload_n hx hb dX6_rewind_5 rfl (lv_at hl 0 rfl) ?_
  have hFc := free_all hD hS hA
  refine va_callv (va_runV (As := []) (rest := []) ⟨hx, hb, hml, hown, hts⟩ (a_advance l D ws_1 tys tp ktp tl 0 x1 x2 bb kbb cbb tbb f_5 H.size (by omega) (by omega) e_3 e_4 ubb) (cwV 0 hts gX6_rewind_X6_advance rfl rfl rfl (by decide +kernel) ⟨Nat.le_of_ble_eq_true rfl, Nat.le_of_ble_eq_true rfl⟩) ⟨fun a U g mk q => by obtain ⟨q0, q1, qP, qK, qD⟩ := q; exact ⟨q0, q1, qP, va_K.moved (u := U) (U := U.calling g mk a) (Vm.Alike.refl U.vm) qK, qD⟩, va_recv hK hP (ci := 6) (q0 := ktp) rfl e_3, fun U hU hW => ⟨rfl, by rw [hU], by rw [hU]; exact hP, va_K.moved hW.alike hK, hD.weaken (fun _ _ _ _ => trivial)⟩⟩ rfl rfl hl.1 rfl (lv_room (Nat.le_of_ble_eq_true rfl)) dX6_rewind_6 ⟨Nat.le_of_ble_eq_true rfl, Nat.le_of_ble_eq_true rfl⟩) hS (fun q _ h => hFc q h) hFc (fun u t H1 locs ht hvm w_7 hB hz1 hk1 hS => ?_)
  obtain ⟨ws_8, ty_9, hm_10, ht_12, hP1, hK1, hD1, hx_11⟩ := hB
  rw [ht] at hP1
  have hK := va_K.moved hvm.symm hK1
  have hD := hD1.weaken (fun _ _ _ h => hFc _ h)
  generalize H1 = H at hP1 hS ⊢
  have hP := hP1
  obtain ⟨g_14, e_13, h_15⟩ := hm_10.obj e_3
  obtain ⟨z_16, z_17, z_18, z_19, rfl⟩ := smX6 h_15
  obtain ⟨f_21, e_20⟩ := hm_10.arrI e_4
  have u_22 := ht_12 _ _ ubb
  have hsm := hsm.tr (hm_10.mono (by decide))
  have htx := htx.tr ht_12
  obtain ⟨k_23, s_24, e_25, h_26, h_27, h_28, e_29⟩ := hx_11
  exact W.vret hx hb hr (fun t ht hW => ⟨⟨(), rfl, trivial, ws_8, ty_9, hsm, htx, by rw [ht]; exact hP, va_K.moved hW.alike hK, hD, ⟨k_23, s_24, e_25, by omega, by omega, by omega, e_29⟩⟩, hS.F ht⟩) hS.2.2 dX6_rewind_9
set_option maxHeartbeats 4000000 in
set_option maxRecDepth 100000 in
theorem s_isByte (l : Launch) (D : va_G) (ws : va_W) (tys : List (ClassId × FieldType)) (tp ktp tl : Nat) (x1 x2 x3 : Int32) (bb kbb : Nat) (cbb : ClassId) (tbb : Nat) (fbb : Nat → Int32) (a1 : Int32) (etp : ws[ktp]? = some (tp, .inr (6, [.int (nI tl), .int x1, .int x2, .int x3, .ref bb]))) (ebb : ws[kbb]? = some (bb, .inl (cbb, 400, .inl fbb))) (ubb : tys[tbb]? = some (cbb, .int)) : Met l yX6_isByte wsX6_isByte ({ frames := 1, cells := 0, slots := 0, locals := 21 }) (va_Pc [.ref tp, .int a1] (fun U => va_P D vwCl ws U.heap ∧ va_K D vwCl tys U)) (vp_Si (fun r => r = 0 ∨ r = 1)) 0 0 (fun _ => False) := by
  refine Met.ofW (cc := cX6_isByte) (maxL := 2) (ret := (some .boolean)) (by decide) rfl ?_
  intro p e s m args below meth c s₁ B hml hv
  obtain ⟨rfl, hP, hK⟩ := hv
  have hx := B.exec
  have hb := B.bytes
  have hr := B.returns
  have hts := atoms_spec (ws := wsX6_isByte) B.pre
  have hown : s.vm.findClass RX6 = some m.cls := findClass_of_methodNamed B.named
  have hlocks := B.notSynchronized
  have hin6 : ∀ w ∈ u_ws RX6 TX6 5, w ∈ wsX6_isByte := (fun _ h9 => List.mem_cons_of_mem _ ((List.mem_append_right _ h9)))
  have hl := lv_entry ([.ref tp, .int a1]) (n := 2) (Nat.le_of_ble_eq_true rfl)
  rw [lg_entry_eq]
  generalize (lg_sl ([.ref tp, .int a1]) ++ List.replicate (2 - (lg_sl ([.ref tp, .int a1])).length) Slot.unset).toArray = ls at hl ⊢
  have hl : lv_has ls 2 [(0, .ref tp), (1, .int a1)] := hl
  refine lv_aload_n hx hb dX6_isByte_0 rfl (lv_at hl 0 rfl) ?_
  refine va_get (D := D) (ci := 6) (v := .int x1) (C := RX6) (T := TX6) (N := 5) hx hb hts hin6 hown hK hP ktp etp rfl 1 (by decide) (hts (.fieldLink RX6 35 "HoneyHouse$Tape" "kind" "I") (List.mem_of_getElem? (i := 1) rfl)) (fun _ h9 => h9) rfl dX6_isByte_1 ?_
  refine lv_iconst (v := 4) hx hb dX6_isByte_4 (by decide) ?_
  refine lv_icmp_ne (tgt := 24) hx hb dX6_isByte_5 (by decide) (fun c_1 => ?_) (fun c_1 => ?_)
  · refine lv_iconst (v := 0) hx hb dX6_isByte_24 (by decide) ?_
    exact W.zret (v := 0) hx hb hr rfl (fun t ht hW => ⟨0, rfl, Or.inl rfl, ht⟩) (fun _ h9 => by cases h9) dX6_isByte_25
  refine lv_aload_n hx hb dX6_isByte_8 rfl (lv_at hl 0 rfl) ?_
  refine lv_aload_n hx hb dX6_isByte_9 rfl (lv_at hl 0 rfl) ?_
  refine va_get (D := D) (ci := 6) (v := .int x2) (C := RX6) (T := TX6) (N := 5) hx hb hts hin6 hown hK hP ktp etp rfl 2 (by decide) (hts (.fieldLink RX6 32 "HoneyHouse$Tape" "start" "I") (List.mem_of_getElem? (i := 2) rfl)) (fun _ h9 => h9) rfl dX6_isByte_10 ?_
  refine vp_callSi (W.runV (As := [.int x2]) (rest := []) ⟨hx, hb, hml, hown, hts⟩ (s_byteAt l D ws tys tp ktp tl x1 x2 x3 bb kbb cbb tbb fbb x2 etp ebb ubb) (cwV 1 hts gX6_isByte_X6_byteAt rfl rfl rfl (by decide +kernel) ⟨Nat.le_of_ble_eq_true rfl, Nat.le_of_ble_eq_true rfl⟩) ⟨fun a U g mk q => ⟨q.1, q.2.1, va_K.moved (u := U) (U := U.calling g mk a) (Vm.Alike.refl U.vm) q.2.2⟩, va_recv hK hP (ci := 6) (q0 := ktp) rfl etp, fun U hU hW => ⟨rfl, by rw [hU]; exact hP, va_K.moved hW.alike hK⟩⟩ rfl rfl hl.1 rfl (lv_room (Nat.le_of_ble_eq_true rfl)) dX6_isByte_13 ⟨Nat.le_of_ble_eq_true rfl, Nat.le_of_ble_eq_true rfl⟩) (fun r_2 k_3 => ?_)
  refine lv_iload_n hx hb dX6_isByte_16 rfl (lv_at hl 1 rfl) ?_
  refine lv_icmp_ne (tgt := 24) hx hb dX6_isByte_17 (by decide) (fun c_4 => ?_) (fun c_4 => ?_)
  · refine lv_iconst (v := 0) hx hb dX6_isByte_24 (by decide) ?_
    exact W.zret (v := 0) hx hb hr rfl (fun t ht hW => ⟨0, rfl, Or.inl rfl, ht⟩) (fun _ h9 => by cases h9) dX6_isByte_25
  refine lv_iconst (v := 1) hx hb dX6_isByte_20 (by decide) ?_
  refine lv_goto (tgt := 25) hx hb dX6_isByte_21 (by decide) ?_
  exact W.zret (v := 1) hx hb hr rfl (fun t ht hW => ⟨1, rfl, Or.inr rfl, ht⟩) (fun _ h9 => by cases h9) dX6_isByte_25
set_option maxHeartbeats 4000000 in
set_option maxRecDepth 100000 in
theorem a_isWord (l : Launch) (D : va_G) (ws : va_W) (tys : List (ClassId × FieldType)) (adK adV : Nat → Nat) (fo : Option Nat) (i9 : Nat) (tp ktp tl : Nat) (x1 x2 x3 : Int32) (bb kbb : Nat) (cbb : ClassId) (tbb : Nat) (fbb : Nat → Int32) (sz : Nat) (hi9 : i9 < 11) (etp : ws[ktp]? = some (tp, .inr (6, [.int (nI tl), .int x1, .int x2, .int x3, .ref bb]))) (ebb : ws[kbb]? = some (bb, .inl (cbb, 400, .inl fbb))) (ubb : tys[tbb]? = some (cbb, .int)) : Met l yX6_isWord wsX6_isWord ({ frames := 4, cells := 0, slots := 0, locals := 85 }) (va_Pc [.ref tp, .ref (adK i9)] (fun U => U.heap.size = sz ∧ va_P D vwCl ws U.heap ∧ va_K D vwCl tys U ∧ va_D (fun _ => True) ws ∧ SZ adK adV fo (va_A ws sz) U U.heap)) (va_Qi (fun (r : Int32) (_ : Unit) => r = 0 ∨ r = 1) (fun (_ : Unit) (t : State) => ∃ (ws' : va_W) (tys' : List (ClassId × FieldType)), sm [] ws ws' ∧ tyx tys tys' ∧ va_P D vwCl ws' t.heap ∧ va_K D vwCl tys' t ∧ va_D (va_A ws sz) ws' ∧ True) (va_A ws sz)) 0 0 (va_A ws sz) := by
  refine Met.ofW (cc := cX6_isWord) (maxL := 3) (ret := (some .boolean)) (by decide) rfl ?_
  intro p e s m args below meth c s₁ B hml hv
  obtain ⟨rfl, hsz, hP, hK, hD0, hsz9⟩ := hv
  have hx := B.exec
  have hb := B.bytes
  have hr := B.returns
  have hts := atoms_spec (ws := wsX6_isWord) B.pre
  have hown : s.vm.findClass RX6 = some m.cls := findClass_of_methodNamed B.named
  have hlocks := B.notSynchronized
  subst hsz
  have hD := hD0.self (sz := s.heap.size)
  generalize hAe : va_A ws s.heap.size = A at hD hsz9 ⊢
  have hA : ∀ q : Nat, s.heap.size ≤ q → A q := fun q h => by rw [← hAe]; exact Or.inr h
  have hS : va_S A s.heap s.heap [] := va_S.rf
  have hsm : sm [] ws ws := sm.rf ws
  have htx : tyx tys tys := tyx.rf tys
  have hin6 : ∀ w ∈ u_ws RX6 TX6 5, w ∈ wsX6_isWord := (fun _ h9 => List.mem_cons_of_mem _ ((List.mem_append_right _ h9)))
  have hl := lv_entry ([.ref tp, .ref (adK i9)]) (n := 3) (Nat.le_of_ble_eq_true rfl)
  rw [lg_entry_eq]
  generalize (lg_sl ([.ref tp, .ref (adK i9)]) ++ List.replicate (3 - (lg_sl ([.ref tp, .ref (adK i9)])).length) Slot.unset).toArray = ls at hl ⊢
  have hl : lv_has ls 3 [(0, .ref tp), (1, .ref (adK i9))] := hl
  have hle9 := lenS_le i9 hi9
  refine lv_aload_n hx hb dX6_isWord_0 rfl (lv_at hl 0 rfl) ?_
  refine va_get (D := D) (ci := 6) (v := .int x1) (C := RX6) (T := TX6) (N := 5) hx hb hts hin6 hown hK hP ktp etp rfl 1 (by decide) (hts (.fieldLink RX6 35 "HoneyHouse$Tape" "kind" "I") (List.mem_of_getElem? (i := 1) rfl)) (fun _ h9 => h9) rfl dX6_isWord_1 ?_
  refine lv_iconst (v := 1) hx hb dX6_isWord_4 (by decide) ?_
  refine lv_icmp_ne (tgt := 24) hx hb dX6_isWord_5 (by decide) (fun c_1 => ?_) (fun c_1 => ?_)
  · refine lv_iconst (v := 0) hx hb dX6_isWord_24 (by decide) ?_
    exact W.zret (v := 0) hx hb hr rfl (fun t ht hW => ⟨⟨0, (), rfl, Or.inl rfl, ws, tys, hsm, htx, by rw [ht]; exact hP, va_K.moved hW.alike hK, hD, trivial⟩, hS.F ht⟩) hS.2.2 dX6_isWord_25
  refine lv_aload_n hx hb dX6_isWord_8 rfl (lv_at hl 0 rfl) ?_
  refine va_get (D := D) (ci := 6) (v := .int x3) (C := RX6) (T := TX6) (N := 5) hx hb hts hin6 hown hK hP ktp etp rfl 3 (by decide) (hts (.fieldLink RX6 19 "HoneyHouse$Tape" "end" "I") (List.mem_of_getElem? (i := 2) rfl)) (fun _ h9 => h9) rfl dX6_isWord_9 ?_
  refine lv_aload_n hx hb dX6_isWord_12 rfl (lv_at hl 0 rfl) ?_
  refine va_get (D := D) (ci := 6) (v := .int x2) (C := RX6) (T := TX6) (N := 5) hx hb hts hin6 hown hK hP ktp etp rfl 2 (by decide) (hts (.fieldLink RX6 32 "HoneyHouse$Tape" "start" "I") (List.mem_of_getElem? (i := 3) rfl)) (fun _ h9 => h9) rfl dX6_isWord_13 ?_
  refine lv_isub hx hb dX6_isWord_16 ?_
  refine lv_topi (fun z_2 _ => ?_)
  refine lv_aload_n hx hb dX6_isWord_17 rfl (lv_at hl 1 rfl) ?_
  refine vp_callSi (W.runV (As := []) (rest := [.int z_2]) ⟨hx, hb, hml, hown, hts⟩ (z_length l adK adV fo i9 hi9) (cwV 0 hts gX6_isWord_J0_length_8abf5 rfl rfl rfl (by decide +kernel) ⟨Nat.le_of_ble_eq_true rfl, Nat.le_of_ble_eq_true rfl⟩) ⟨fun a U g mk q => ⟨q.1, SZ.same rfl rfl q.2⟩, vk_recv hsz9.1 hi9 hS, fun U hU hW => ⟨rfl, hsz9.go hS hW hU (fun _ h9 => h9.elim)⟩⟩ rfl rfl hl.1 rfl (lv_room (Nat.le_of_ble_eq_true rfl)) dX6_isWord_18 ⟨Nat.le_of_ble_eq_true rfl, Nat.le_of_ble_eq_true rfl⟩) (fun r_3 k_4 => ?_)
  subst k_4
  refine lv_icmp_eq (tgt := 26) hx hb dX6_isWord_21 (by decide) (fun c_5 => ?_) (fun c_5 => ?_)
  · refine lv_iconst (v := 0) hx hb dX6_isWord_26 (by decide) ?_
    refine lv_istore_n (lv' := [(2, .int 0), (0, .ref tp), (1, .ref (adK i9))]) hx hb dX6_isWord_27 rfl hl (by decide) rfl (fun ls hl => ?_)
    refine lp_V (nL := 3) (σ := Nat) (lv := fun x9 => [(2, .int (nI x9)), (1, .ref (adK i9)), (0, .ref tp)]) (μ := fun x9 => lenS.getD i9 0 - x9) (J := fun x9 ws9 => sm [] ws ws9 ∧ (x9 ≤ lenS.getD i9 0)) (fun x9 ws_9 H locs ls hj hP hD hS hl ih_6 => ?_) 0 ws _ _ ls ⟨sm.rf _, (show 0 ≤ lenS.getD i9 0 from by omega)⟩ hP hD hS (lv_sub hl [0, 2, 1] rfl)
    obtain ⟨i_7, hx9⟩ : ∃ y9, y9 = x9 := ⟨_, rfl⟩
    subst hx9
    have hj : sm [] ws ws_9 ∧ (i_7 ≤ lenS.getD i9 0) := hj
    obtain ⟨hm_10, hi_8⟩ := hj
    have e_12 := hm_10.objK etp (by decide)
    obtain ⟨f_14, e_13⟩ := hm_10.arrI ebb
    have hsm := hsm.tr (hm_10.mono (by decide))
    have hlp_11 := hm_10
    have hl : lv_has ls 3 [(2, .int (nI i_7)), (1, .ref (adK i9)), (0, .ref tp)] := hl
    refine lv_iload_n hx hb dX6_isWord_28 rfl (lv_at hl 0 rfl) ?_
    refine lv_aload_n hx hb dX6_isWord_29 rfl (lv_at hl 1 rfl) ?_
    refine vp_callSi (W.runV (As := []) (rest := [.int (nI i_7)]) ⟨hx, hb, hml, hown, hts⟩ (z_length l adK adV fo i9 hi9) (cwV 0 hts gX6_isWord_J0_length_8abf5 rfl rfl rfl (by decide +kernel) ⟨Nat.le_of_ble_eq_true rfl, Nat.le_of_ble_eq_true rfl⟩) ⟨fun a U g mk q => ⟨q.1, SZ.same rfl rfl q.2⟩, vk_recv hsz9.1 hi9 hS, fun U hU hW => ⟨rfl, hsz9.go hS hW hU (fun _ h9 => h9.elim)⟩⟩ rfl rfl hl.1 rfl (lv_room (Nat.le_of_ble_eq_true rfl)) dX6_isWord_30 ⟨Nat.le_of_ble_eq_true rfl, Nat.le_of_ble_eq_true rfl⟩) (fun r_15 k_16 => ?_)
    subst k_16
    refine lv_icmp_ge (tgt := 62) hx hb dX6_isWord_33 (by decide) (fun c_17 => ?_) (fun c_17 => ?_)
    · have d_18 := n_le (a := lenS.getD i9 0) (b := i_7) (by omega) (by omega) c_17
      refine lv_iconst (v := 1) hx hb dX6_isWord_62 (by decide) ?_
      exact W.zret (v := 1) hx hb hr rfl (fun t ht hW => ⟨⟨1, (), rfl, Or.inr rfl, ws_9, tys, hsm, htx, by rw [ht]; exact hP, va_K.moved hW.alike hK, hD, trivial⟩, hS.F ht⟩) hS.2.2 dX6_isWord_63
    have d_19 := n_nle (a := lenS.getD i9 0) (b := i_7) (by omega) (by omega) c_17
    refine lv_aload_n hx hb dX6_isWord_36 rfl (lv_at hl 2 rfl) ?_
    refine lv_aload_n hx hb dX6_isWord_37 rfl (lv_at hl 2 rfl) ?_
    refine va_get (D := D) (ci := 6) (v := .int x2) (C := RX6) (T := TX6) (N := 5) hx hb hts hin6 hown hK hP ktp e_12 rfl 2 (by decide) (hts (.fieldLink RX6 32 "HoneyHouse$Tape" "start" "I") (List.mem_of_getElem? (i := 3) rfl)) (fun _ h9 => h9) rfl dX6_isWord_38 ?_
    refine lv_iload_n hx hb dX6_isWord_41 rfl (lv_at hl 0 rfl) ?_
    refine lv_iadd hx hb dX6_isWord_42 ?_
    refine lv_topi (fun z_20 _ => ?_)
    refine vp_callSi (W.runV (As := [.int z_20]) (rest := []) ⟨hx, hb, hml, hown, hts⟩ (s_byteAt l D ws_9 tys tp ktp tl x1 x2 x3 bb kbb cbb tbb f_14 z_20 e_12 e_13 ubb) (cwV 1 hts gX6_isWord_X6_byteAt rfl rfl rfl (by decide +kernel) ⟨Nat.le_of_ble_eq_true rfl, Nat.le_of_ble_eq_true rfl⟩) ⟨fun a U g mk q => ⟨q.1, q.2.1, va_K.moved (u := U) (U := U.calling g mk a) (Vm.Alike.refl U.vm) q.2.2⟩, va_recv hK hP (ci := 6) (q0 := ktp) rfl e_12, fun U hU hW => ⟨rfl, by rw [hU]; exact hP, va_K.moved hW.alike hK⟩⟩ rfl rfl hl.1 rfl (lv_room (Nat.le_of_ble_eq_true rfl)) dX6_isWord_43 ⟨Nat.le_of_ble_eq_true rfl, Nat.le_of_ble_eq_true rfl⟩) (fun r_21 k_22 => ?_)
    refine lv_aload_n hx hb dX6_isWord_46 rfl (lv_at hl 1 rfl) ?_
    refine lv_iload_n hx hb dX6_isWord_47 rfl (lv_at hl 0 rfl) ?_
    refine vp_callSi (W.runV (As := [.int (nI i_7)]) (rest := [.int r_21]) ⟨hx, hb, hml, hown, hts⟩ (z_charAt l adK adV fo i9 i_7 hi9 (by omega)) (cwV 1 hts gX6_isWord_J0_charAt_5068e rfl rfl rfl (by decide +kernel) ⟨Nat.le_of_ble_eq_true rfl, Nat.le_of_ble_eq_true rfl⟩) ⟨fun a U g mk q => ⟨q.1, SZ.same rfl rfl q.2⟩, vk_recv hsz9.1 hi9 hS, fun U hU hW => ⟨rfl, hsz9.go hS hW hU (fun _ h9 => h9.elim)⟩⟩ rfl rfl hl.1 rfl (lv_room (Nat.le_of_ble_eq_true rfl)) dX6_isWord_48 ⟨Nat.le_of_ble_eq_true rfl, Nat.le_of_ble_eq_true rfl⟩) (fun r_23 k_24 => ?_)
    refine lv_icmp_eq (tgt := 56) hx hb dX6_isWord_51 (by decide) (fun c_25 => ?_) (fun c_25 => ?_)
    · refine lv_iinc (v := nI (i_7 + 1)) (lv' := [(2, .int (nI (i_7 + 1))), (1, .ref (adK i9)), (0, .ref tp)]) hx hb dX6_isWord_56 hl (k := 0) rfl (nI_add i_7 1) (by decide) rfl (fun ls hl => ?_)
      refine lv_goto (tgt := 28) hx hb dX6_isWord_59 (by decide) ?_
      exact ih_6 (i_7 + 1) ws_9 _ _ ls (by show lenS.getD i9 0 - (i_7 + 1) < lenS.getD i9 0 - i_7; omega) ⟨hlp_11, (show (i_7 + 1) ≤ lenS.getD i9 0 from by omega)⟩ hP hD hS (lv_sub hl [0, 1, 2] rfl)
    refine lv_iconst (v := 0) hx hb dX6_isWord_54 (by decide) ?_
    exact W.zret (v := 0) hx hb hr rfl (fun t ht hW => ⟨⟨0, (), rfl, Or.inl rfl, ws_9, tys, hsm, htx, by rw [ht]; exact hP, va_K.moved hW.alike hK, hD, trivial⟩, hS.F ht⟩) hS.2.2 dX6_isWord_55
  refine lv_iconst (v := 0) hx hb dX6_isWord_24 (by decide) ?_
  exact W.zret (v := 0) hx hb hr rfl (fun t ht hW => ⟨⟨0, (), rfl, Or.inl rfl, ws, tys, hsm, htx, by rw [ht]; exact hP, va_K.moved hW.alike hK, hD, trivial⟩, hS.F ht⟩) hS.2.2 dX6_isWord_25
set_option maxHeartbeats 4000000 in
set_option maxRecDepth 100000 in
theorem a_wordKey (l : Launch) (D : va_G) (ws : va_W) (tys : List (ClassId × FieldType)) (tp ktp tl ts te : Nat) (x1 : Int32) (bb kbb : Nat) (cbb : ClassId) (tbb : Nat) (fbb : Nat → Int32) (sz : Nat) (htl : tl ≤ 400) (hts9 : ts ≤ te ∧ te ≤ tl) (etp : ws[ktp]? = some (tp, .inr (6, [.int (nI tl), .int x1, .int (nI ts), .int (nI te), .ref bb]))) (ebb : ws[kbb]? = some (bb, .inl (cbb, 400, .inl fbb))) (ubb : tys[tbb]? = some (cbb, .int)) : Met l yX6_wordKey wsX6_wordKey ({ frames := 1, cells := 0, slots := 0, locals := 21 }) (va_Pc [.ref tp] (fun U => U.heap.size = sz ∧ va_P D vwCl ws U.heap ∧ va_K D vwCl tys U ∧ va_D (fun _ => True) ws)) (va_Ql (fun (r : Int64) (_ : Unit) => True) (fun (_ : Unit) (t : State) => ∃ (ws' : va_W) (tys' : List (ClassId × FieldType)), sm [] ws ws' ∧ tyx tys tys' ∧ va_P D vwCl ws' t.heap ∧ va_K D vwCl tys' t ∧ va_D (va_A ws sz) ws' ∧ True) (va_A ws sz)) 0 0 (va_A ws sz) := by
  refine Met.ofW (cc := cX6_wordKey) (maxL := 4) (ret := (some .long)) (by decide) rfl ?_
  intro p e s m args below meth c s₁ B hml hv
  obtain ⟨rfl, hsz, hP, hK, hD0⟩ := hv
  have hx := B.exec
  have hb := B.bytes
  have hr := B.returns
  have hts := atoms_spec (ws := wsX6_wordKey) B.pre
  have hown : s.vm.findClass RX6 = some m.cls := findClass_of_methodNamed B.named
  have hlocks := B.notSynchronized
  subst hsz
  have hD := hD0.self (sz := s.heap.size)
  generalize hAe : va_A ws s.heap.size = A at hD ⊢
  have hA : ∀ q : Nat, s.heap.size ≤ q → A q := fun q h => by rw [← hAe]; exact Or.inr h
  have hS : va_S A s.heap s.heap [] := va_S.rf
  have hsm : sm [] ws ws := sm.rf ws
  have htx : tyx tys tys := tyx.rf tys
  have hin6 : ∀ w ∈ u_ws RX6 TX6 5, w ∈ wsX6_wordKey := (fun _ h9 => List.mem_cons_of_mem _ ((List.mem_append_right _ h9)))
  have hl := lv_entry ([.ref tp]) (n := 4) (Nat.le_of_ble_eq_true rfl)
  rw [lg_entry_eq]
  generalize (lg_sl ([.ref tp]) ++ List.replicate (4 - (lg_sl ([.ref tp])).length) Slot.unset).toArray = ls at hl ⊢
  have hl : lv_has ls 4 [(0, .ref tp)] := hl
  refine lv_lconst (v := 0) hx hb dX6_wordKey_0 (by decide) ?_
  refine lv_lstore_n (lv' := [(1, .long 0), (0, .ref tp)]) hx hb dX6_wordKey_1 rfl hl (by decide) rfl (fun ls hl => ?_)
  refine lv_aload_n hx hb dX6_wordKey_2 rfl (lv_at hl 1 rfl) ?_
  refine va_get (D := D) (ci := 6) (v := .int (nI ts)) (C := RX6) (T := TX6) (N := 5) hx hb hts hin6 hown hK hP ktp etp rfl 2 (by decide) (hts (.fieldLink RX6 32 "HoneyHouse$Tape" "start" "I") (List.mem_of_getElem? (i := 1) rfl)) (fun _ h9 => h9) rfl dX6_wordKey_3 ?_
  refine lv_istore_n (lv' := [(3, .int (nI ts)), (1, .long 0), (0, .ref tp)]) hx hb dX6_wordKey_6 rfl hl (by decide) rfl (fun ls hl => ?_)
  refine lp_V (nL := 4) (σ := Nat × Int64) (lv := fun x9 => [(3, .int (nI x9.1)), (1, .long x9.2), (0, .ref tp)]) (μ := fun x9 => te - x9.1) (J := fun x9 ws9 => sm [] ws ws9 ∧ (x9.1 ≤ te)) (fun x9 ws_5 H locs ls hj hP hD hS hl ih_1 => ?_) (ts, 0) ws _ _ ls ⟨sm.rf _, (show ts ≤ te from by omega)⟩ hP hD hS (lv_sub hl [0, 1, 2] rfl)
  obtain ⟨k_2, x_3⟩ := x9
  have hj : sm [] ws ws_5 ∧ (k_2 ≤ te) := hj
  obtain ⟨hm_6, hk_4⟩ := hj
  have e_8 := hm_6.objK etp (by decide)
  obtain ⟨f_10, e_9⟩ := hm_6.arrI ebb
  have hsm := hsm.tr (hm_6.mono (by decide))
  have hlp_7 := hm_6
  have hl : lv_has ls 4 [(3, .int (nI k_2)), (1, .long x_3), (0, .ref tp)] := hl
  refine lv_iload_n hx hb dX6_wordKey_7 rfl (lv_at hl 0 rfl) ?_
  refine lv_aload_n hx hb dX6_wordKey_8 rfl (lv_at hl 2 rfl) ?_
  refine va_get (D := D) (ci := 6) (v := .int (nI te)) (C := RX6) (T := TX6) (N := 5) hx hb hts hin6 hown hK hP ktp e_8 rfl 3 (by decide) (hts (.fieldLink RX6 19 "HoneyHouse$Tape" "end" "I") (List.mem_of_getElem? (i := 2) rfl)) (fun _ h9 => h9) rfl dX6_wordKey_9 ?_
  refine lv_icmp_ge (tgt := 38) hx hb dX6_wordKey_12 (by decide) (fun c_11 => ?_) (fun c_11 => ?_)
  · have d_12 := n_le (a := te) (b := k_2) (by omega) (by omega) c_11
    refine lv_lload_n hx hb dX6_wordKey_38 rfl (lv_at hl 1 rfl) ?_
    exact W.lret (v := x_3) hx hb hr (fun t ht hW => ⟨⟨x_3, (), rfl, trivial, ws_5, tys, hsm, htx, by rw [ht]; exact hP, va_K.moved hW.alike hK, hD, trivial⟩, hS.F ht⟩) hS.2.2 dX6_wordKey_39
  have d_13 := n_nle (a := te) (b := k_2) (by omega) (by omega) c_11
  refine lv_lload_n hx hb dX6_wordKey_15 rfl (lv_at hl 1 rfl) ?_
  refine lv_iconst (v := 5) hx hb dX6_wordKey_16 (by decide) ?_
  refine lv_lshl hx hb dX6_wordKey_17 rfl ?_
  refine lv_topl (fun z_14 _ => ?_)
  refine lv_aload_n hx hb dX6_wordKey_18 rfl (lv_at hl 2 rfl) ?_
  refine lv_iload_n hx hb dX6_wordKey_19 rfl (lv_at hl 0 rfl) ?_
  refine vp_callSi (W.runV (As := [.int (nI k_2)]) (rest := [.long z_14]) ⟨hx, hb, hml, hown, hts⟩ (s_byteAt l D ws_5 tys tp ktp tl x1 (nI ts) (nI te) bb kbb cbb tbb f_10 (nI k_2) e_8 e_9 ubb) (cwV 1 hts gX6_wordKey_X6_byteAt rfl rfl rfl (by decide +kernel) ⟨Nat.le_of_ble_eq_true rfl, Nat.le_of_ble_eq_true rfl⟩) ⟨fun a U g mk q => ⟨q.1, q.2.1, va_K.moved (u := U) (U := U.calling g mk a) (Vm.Alike.refl U.vm) q.2.2⟩, va_recv hK hP (ci := 6) (q0 := ktp) rfl e_8, fun U hU hW => ⟨rfl, by rw [hU]; exact hP, va_K.moved hW.alike hK⟩⟩ rfl rfl hl.1 rfl (lv_room (Nat.le_of_ble_eq_true rfl)) dX6_wordKey_20 ⟨Nat.le_of_ble_eq_true rfl, Nat.le_of_ble_eq_true rfl⟩) (fun r_15 k_16 => ?_)
  refine lv_i2l hx hb dX6_wordKey_23 rfl ?_
  refine lv_ladd hx hb dX6_wordKey_24 ?_
  refine lv_topl (fun z_17 _ => ?_)
  refine lv_ldc2 hx hb hown (hts (.constantLong RX6 47 (97)) (List.mem_of_getElem? (i := 3) rfl)) dX6_wordKey_25 ?_
  refine lv_lsub hx hb dX6_wordKey_28 ?_
  refine lv_topl (fun z_18 _ => ?_)
  refine lv_lconst (v := 1) hx hb dX6_wordKey_29 (by decide) ?_
  refine lv_ladd hx hb dX6_wordKey_30 ?_
  refine lv_topl (fun z_19 _ => ?_)
  refine lv_lstore_n (lv' := [(1, .long z_19), (3, .int (nI k_2)), (0, .ref tp)]) hx hb dX6_wordKey_31 rfl hl (by decide) rfl (fun ls hl => ?_)
  refine lv_iinc (v := nI (k_2 + 1)) (lv' := [(3, .int (nI (k_2 + 1))), (1, .long z_19), (0, .ref tp)]) hx hb dX6_wordKey_32 hl (k := 1) rfl (nI_add k_2 1) (by decide) rfl (fun ls hl => ?_)
  refine lv_goto (tgt := 7) hx hb dX6_wordKey_35 (by decide) ?_
  exact ih_1 (k_2 + 1, z_19) ws_5 _ _ ls (by show te - (k_2 + 1) < te - k_2; omega) ⟨hlp_7, (show (k_2 + 1) ≤ te from by omega)⟩ hP hD hS (lv_sub hl [0, 1, 2] rfl)
set_option maxHeartbeats 4000000 in
set_option maxRecDepth 100000 in
theorem a_numberValue (l : Launch) (D : va_G) (ws : va_W) (tys : List (ClassId × FieldType)) (tp ktp tl ts te : Nat) (x1 : Int32) (bb kbb : Nat) (cbb : ClassId) (tbb : Nat) (fbb : Nat → Int32) (sz : Nat) (htl : tl ≤ 400) (hts9 : ts ≤ te ∧ te ≤ tl) (etp : ws[ktp]? = some (tp, .inr (6, [.int (nI tl), .int x1, .int (nI ts), .int (nI te), .ref bb]))) (ebb : ws[kbb]? = some (bb, .inl (cbb, 400, .inl fbb))) (ubb : tys[tbb]? = some (cbb, .int)) : Met l yX6_numberValue wsX6_numberValue ({ frames := 1, cells := 0, slots := 0, locals := 21 }) (va_Pc [.ref tp] (fun U => U.heap.size = sz ∧ va_P D vwCl ws U.heap ∧ va_K D vwCl tys U ∧ va_D (fun _ => True) ws)) (va_Qi (fun (r : Int32) (_ : Unit) => True) (fun (_ : Unit) (t : State) => ∃ (ws' : va_W) (tys' : List (ClassId × FieldType)), sm [] ws ws' ∧ tyx tys tys' ∧ va_P D vwCl ws' t.heap ∧ va_K D vwCl tys' t ∧ va_D (va_A ws sz) ws' ∧ True) (va_A ws sz)) 0 0 (va_A ws sz) := by
  refine Met.ofW (cc := cX6_numberValue) (maxL := 3) (ret := (some .int)) (by decide) rfl ?_
  intro p e s m args below meth c s₁ B hml hv
  obtain ⟨rfl, hsz, hP, hK, hD0⟩ := hv
  have hx := B.exec
  have hb := B.bytes
  have hr := B.returns
  have hts := atoms_spec (ws := wsX6_numberValue) B.pre
  have hown : s.vm.findClass RX6 = some m.cls := findClass_of_methodNamed B.named
  have hlocks := B.notSynchronized
  subst hsz
  have hD := hD0.self (sz := s.heap.size)
  generalize hAe : va_A ws s.heap.size = A at hD ⊢
  have hA : ∀ q : Nat, s.heap.size ≤ q → A q := fun q h => by rw [← hAe]; exact Or.inr h
  have hS : va_S A s.heap s.heap [] := va_S.rf
  have hsm : sm [] ws ws := sm.rf ws
  have htx : tyx tys tys := tyx.rf tys
  have hin6 : ∀ w ∈ u_ws RX6 TX6 5, w ∈ wsX6_numberValue := (fun _ h9 => List.mem_cons_of_mem _ ((List.mem_append_right _ h9)))
  have hl := lv_entry ([.ref tp]) (n := 3) (Nat.le_of_ble_eq_true rfl)
  rw [lg_entry_eq]
  generalize (lg_sl ([.ref tp]) ++ List.replicate (3 - (lg_sl ([.ref tp])).length) Slot.unset).toArray = ls at hl ⊢
  have hl : lv_has ls 3 [(0, .ref tp)] := hl
  refine lv_iconst (v := 0) hx hb dX6_numberValue_0 (by decide) ?_
  refine lv_istore_n (lv' := [(1, .int 0), (0, .ref tp)]) hx hb dX6_numberValue_1 rfl hl (by decide) rfl (fun ls hl => ?_)
  refine lv_aload_n hx hb dX6_numberValue_2 rfl (lv_at hl 1 rfl) ?_
  refine va_get (D := D) (ci := 6) (v := .int (nI ts)) (C := RX6) (T := TX6) (N := 5) hx hb hts hin6 hown hK hP ktp etp rfl 2 (by decide) (hts (.fieldLink RX6 32 "HoneyHouse$Tape" "start" "I") (List.mem_of_getElem? (i := 1) rfl)) (fun _ h9 => h9) rfl dX6_numberValue_3 ?_
  refine lv_istore_n (lv' := [(2, .int (nI ts)), (1, .int 0), (0, .ref tp)]) hx hb dX6_numberValue_6 rfl hl (by decide) rfl (fun ls hl => ?_)
  refine lp_V (nL := 3) (σ := Nat × Int32) (lv := fun x9 => [(2, .int (nI x9.1)), (1, .int x9.2), (0, .ref tp)]) (μ := fun x9 => te - x9.1) (J := fun x9 ws9 => sm [] ws ws9 ∧ (x9.1 ≤ te)) (fun x9 ws_5 H locs ls hj hP hD hS hl ih_1 => ?_) (ts, 0) ws _ _ ls ⟨sm.rf _, (show ts ≤ te from by omega)⟩ hP hD hS (lv_sub hl [0, 1, 2] rfl)
  obtain ⟨k_2, x_3⟩ := x9
  have hj : sm [] ws ws_5 ∧ (k_2 ≤ te) := hj
  obtain ⟨hm_6, hk_4⟩ := hj
  have e_8 := hm_6.objK etp (by decide)
  obtain ⟨f_10, e_9⟩ := hm_6.arrI ebb
  have hsm := hsm.tr (hm_6.mono (by decide))
  have hlp_7 := hm_6
  have hl : lv_has ls 3 [(2, .int (nI k_2)), (1, .int x_3), (0, .ref tp)] := hl
  refine lv_iload_n hx hb dX6_numberValue_7 rfl (lv_at hl 0 rfl) ?_
  refine lv_aload_n hx hb dX6_numberValue_8 rfl (lv_at hl 2 rfl) ?_
  refine va_get (D := D) (ci := 6) (v := .int (nI te)) (C := RX6) (T := TX6) (N := 5) hx hb hts hin6 hown hK hP ktp e_8 rfl 3 (by decide) (hts (.fieldLink RX6 19 "HoneyHouse$Tape" "end" "I") (List.mem_of_getElem? (i := 2) rfl)) (fun _ h9 => h9) rfl dX6_numberValue_9 ?_
  refine lv_icmp_ge (tgt := 35) hx hb dX6_numberValue_12 (by decide) (fun c_11 => ?_) (fun c_11 => ?_)
  · have d_12 := n_le (a := te) (b := k_2) (by omega) (by omega) c_11
    refine lv_iload_n hx hb dX6_numberValue_35 rfl (lv_at hl 1 rfl) ?_
    exact W.iret (v := x_3) hx hb hr (fun t ht hW => ⟨⟨x_3, (), rfl, trivial, ws_5, tys, hsm, htx, by rw [ht]; exact hP, va_K.moved hW.alike hK, hD, trivial⟩, hS.F ht⟩) hS.2.2 dX6_numberValue_36
  have d_13 := n_nle (a := te) (b := k_2) (by omega) (by omega) c_11
  refine lv_iload_n hx hb dX6_numberValue_15 rfl (lv_at hl 1 rfl) ?_
  refine lv_bipush (v := 10) hx hb dX6_numberValue_16 (by decide) ?_
  refine lv_imul hx hb dX6_numberValue_18 ?_
  refine lv_topi (fun z_14 _ => ?_)
  refine lv_aload_n hx hb dX6_numberValue_19 rfl (lv_at hl 2 rfl) ?_
  refine lv_iload_n hx hb dX6_numberValue_20 rfl (lv_at hl 0 rfl) ?_
  refine vp_callSi (W.runV (As := [.int (nI k_2)]) (rest := [.int z_14]) ⟨hx, hb, hml, hown, hts⟩ (s_byteAt l D ws_5 tys tp ktp tl x1 (nI ts) (nI te) bb kbb cbb tbb f_10 (nI k_2) e_8 e_9 ubb) (cwV 1 hts gX6_numberValue_X6_byteAt rfl rfl rfl (by decide +kernel) ⟨Nat.le_of_ble_eq_true rfl, Nat.le_of_ble_eq_true rfl⟩) ⟨fun a U g mk q => ⟨q.1, q.2.1, va_K.moved (u := U) (U := U.calling g mk a) (Vm.Alike.refl U.vm) q.2.2⟩, va_recv hK hP (ci := 6) (q0 := ktp) rfl e_8, fun U hU hW => ⟨rfl, by rw [hU]; exact hP, va_K.moved hW.alike hK⟩⟩ rfl rfl hl.1 rfl (lv_room (Nat.le_of_ble_eq_true rfl)) dX6_numberValue_21 ⟨Nat.le_of_ble_eq_true rfl, Nat.le_of_ble_eq_true rfl⟩) (fun r_15 k_16 => ?_)
  refine lv_iadd hx hb dX6_numberValue_24 ?_
  refine lv_topi (fun z_17 _ => ?_)
  refine lv_bipush (v := 48) hx hb dX6_numberValue_25 (by decide) ?_
  refine lv_isub hx hb dX6_numberValue_27 ?_
  refine lv_topi (fun z_18 _ => ?_)
  refine lv_istore_n (lv' := [(1, .int z_18), (2, .int (nI k_2)), (0, .ref tp)]) hx hb dX6_numberValue_28 rfl hl (by decide) rfl (fun ls hl => ?_)
  refine lv_iinc (v := nI (k_2 + 1)) (lv' := [(2, .int (nI (k_2 + 1))), (1, .int z_18), (0, .ref tp)]) hx hb dX6_numberValue_29 hl (k := 1) rfl (nI_add k_2 1) (by decide) rfl (fun ls hl => ?_)
  refine lv_goto (tgt := 7) hx hb dX6_numberValue_32 (by decide) ?_
  exact ih_1 (k_2 + 1, z_18) ws_5 _ _ ls (by show te - (k_2 + 1) < te - k_2; omega) ⟨hlp_7, (show (k_2 + 1) ≤ te from by omega)⟩ hP hD hS (lv_sub hl [0, 1, 2] rfl)
