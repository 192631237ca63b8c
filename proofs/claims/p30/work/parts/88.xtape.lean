theorem dX6_byteAt_0 : decode cX6_byteAt 0 = .ok (.iload_n 1, 1) := by decide +kernel
theorem dX6_byteAt_1 : decode cX6_byteAt 1 = .ok (.ifCond .lt 29, 3) := by decide +kernel
theorem dX6_byteAt_4 : decode cX6_byteAt 4 = .ok (.iload_n 1, 1) := by decide +kernel
theorem dX6_byteAt_5 : decode cX6_byteAt 5 = .ok (.aload_n 0, 1) := by decide +kernel
theorem dX6_byteAt_6 : decode cX6_byteAt 6 = .ok (.getfield 15, 3) := by decide +kernel
theorem dX6_byteAt_9 : decode cX6_byteAt 9 = .ok (.if_icmp .ge 21, 3) := by decide +kernel
theorem dX6_byteAt_12 : decode cX6_byteAt 12 = .ok (.iload_n 1, 1) := by decide +kernel
theorem dX6_byteAt_13 : decode cX6_byteAt 13 = .ok (.aload_n 0, 1) := by decide +kernel
theorem dX6_byteAt_14 : decode cX6_byteAt 14 = .ok (.getfield 9, 3) := by decide +kernel
theorem dX6_byteAt_17 : decode cX6_byteAt 17 = .ok (.arraylength, 1) := by decide +kernel
theorem dX6_byteAt_18 : decode cX6_byteAt 18 = .ok (.if_icmp .ge 12, 3) := by decide +kernel
theorem dX6_byteAt_21 : decode cX6_byteAt 21 = .ok (.aload_n 0, 1) := by decide +kernel
theorem dX6_byteAt_22 : decode cX6_byteAt 22 = .ok (.getfield 9, 3) := by decide +kernel
theorem dX6_byteAt_25 : decode cX6_byteAt 25 = .ok (.iload_n 1, 1) := by decide +kernel
theorem dX6_byteAt_26 : decode cX6_byteAt 26 = .ok (.iaload, 1) := by decide +kernel
theorem dX6_byteAt_27 : decode cX6_byteAt 27 = .ok (.goto 4, 3) := by decide +kernel
theorem dX6_byteAt_30 : decode cX6_byteAt 30 = .ok (.iconst (-1), 1) := by decide +kernel
theorem dX6_byteAt_31 : decode cX6_byteAt 31 = .ok (.ireturn, 1) := by decide +kernel
theorem dX6_kindOf_0 : decode cX6_kindOf 0 = .ok (.iload_n 0, 1) := by decide +kernel
theorem dX6_kindOf_1 : decode cX6_kindOf 1 = .ok (.bipush 97, 2) := by decide +kernel
theorem dX6_kindOf_3 : decode cX6_kindOf 3 = .ok (.if_icmp .lt 11, 3) := by decide +kernel
theorem dX6_kindOf_6 : decode cX6_kindOf 6 = .ok (.iload_n 0, 1) := by decide +kernel
theorem dX6_kindOf_7 : decode cX6_kindOf 7 = .ok (.bipush 122, 2) := by decide +kernel
theorem dX6_kindOf_9 : decode cX6_kindOf 9 = .ok (.if_icmp .gt 5, 3) := by decide +kernel
theorem dX6_kindOf_12 : decode cX6_kindOf 12 = .ok (.iconst 1, 1) := by decide +kernel
theorem dX6_kindOf_13 : decode cX6_kindOf 13 = .ok (.ireturn, 1) := by decide +kernel
theorem dX6_kindOf_14 : decode cX6_kindOf 14 = .ok (.iload_n 0, 1) := by decide +kernel
theorem dX6_kindOf_15 : decode cX6_kindOf 15 = .ok (.bipush 48, 2) := by decide +kernel
theorem dX6_kindOf_17 : decode cX6_kindOf 17 = .ok (.if_icmp .lt 11, 3) := by decide +kernel
theorem dX6_kindOf_20 : decode cX6_kindOf 20 = .ok (.iload_n 0, 1) := by decide +kernel
theorem dX6_kindOf_21 : decode cX6_kindOf 21 = .ok (.bipush 57, 2) := by decide +kernel
theorem dX6_kindOf_23 : decode cX6_kindOf 23 = .ok (.if_icmp .gt 5, 3) := by decide +kernel
theorem dX6_kindOf_26 : decode cX6_kindOf 26 = .ok (.iconst 2, 1) := by decide +kernel
theorem dX6_kindOf_27 : decode cX6_kindOf 27 = .ok (.ireturn, 1) := by decide +kernel
theorem dX6_kindOf_28 : decode cX6_kindOf 28 = .ok (.iload_n 0, 1) := by decide +kernel
theorem dX6_kindOf_29 : decode cX6_kindOf 29 = .ok (.bipush 10, 2) := by decide +kernel
theorem dX6_kindOf_31 : decode cX6_kindOf 31 = .ok (.if_icmp .eq 9, 3) := by decide +kernel
theorem dX6_kindOf_34 : decode cX6_kindOf 34 = .ok (.iload_n 0, 1) := by decide +kernel
theorem dX6_kindOf_35 : decode cX6_kindOf 35 = .ok (.bipush 32, 2) := by decide +kernel
theorem dX6_kindOf_37 : decode cX6_kindOf 37 = .ok (.if_icmp .ne 5, 3) := by decide +kernel
theorem dX6_kindOf_40 : decode cX6_kindOf 40 = .ok (.iconst 3, 1) := by decide +kernel
theorem dX6_kindOf_41 : decode cX6_kindOf 41 = .ok (.ireturn, 1) := by decide +kernel
theorem dX6_kindOf_42 : decode cX6_kindOf 42 = .ok (.iload_n 0, 1) := by decide +kernel
theorem dX6_kindOf_43 : decode cX6_kindOf 43 = .ok (.iconst (-1), 1) := by decide +kernel
theorem dX6_kindOf_44 : decode cX6_kindOf 44 = .ok (.if_icmp .ne 7, 3) := by decide +kernel
theorem dX6_kindOf_47 : decode cX6_kindOf 47 = .ok (.iconst 0, 1) := by decide +kernel
theorem dX6_kindOf_48 : decode cX6_kindOf 48 = .ok (.goto 4, 3) := by decide +kernel
theorem dX6_kindOf_51 : decode cX6_kindOf 51 = .ok (.iconst 4, 1) := by decide +kernel
theorem dX6_kindOf_52 : decode cX6_kindOf 52 = .ok (.ireturn, 1) := by decide +kernel
theorem dX6_advance_0 : decode cX6_advance 0 = .ok (.aload_n 0, 1) := by decide +kernel
theorem dX6_advance_1 : decode cX6_advance 1 = .ok (.getfield 19, 3) := by decide +kernel
theorem dX6_advance_4 : decode cX6_advance 4 = .ok (.istore_n 1, 1) := by decide +kernel
theorem dX6_advance_5 : decode cX6_advance 5 = .ok (.iload_n 1, 1) := by decide +kernel
theorem dX6_advance_6 : decode cX6_advance 6 = .ok (.aload_n 0, 1) := by decide +kernel
theorem dX6_advance_7 : decode cX6_advance 7 = .ok (.getfield 15, 3) := by decide +kernel
theorem dX6_advance_10 : decode cX6_advance 10 = .ok (.if_icmp .ge 21, 3) := by decide +kernel
theorem dX6_advance_13 : decode cX6_advance 13 = .ok (.aload_n 0, 1) := by decide +kernel
theorem dX6_advance_14 : decode cX6_advance 14 = .ok (.iload_n 1, 1) := by decide +kernel
theorem dX6_advance_15 : decode cX6_advance 15 = .ok (.invokevirtual 25, 3) := by decide +kernel
theorem dX6_advance_18 : decode cX6_advance 18 = .ok (.invokestatic 29, 3) := by decide +kernel
theorem dX6_advance_21 : decode cX6_advance 21 = .ok (.iconst 3, 1) := by decide +kernel
theorem dX6_advance_22 : decode cX6_advance 22 = .ok (.if_icmp .ne 9, 3) := by decide +kernel
theorem dX6_advance_25 : decode cX6_advance 25 = .ok (.iinc 1 1, 3) := by decide +kernel
theorem dX6_advance_28 : decode cX6_advance 28 = .ok (.goto (-23), 3) := by decide +kernel
theorem dX6_advance_31 : decode cX6_advance 31 = .ok (.aload_n 0, 1) := by decide +kernel
theorem dX6_advance_32 : decode cX6_advance 32 = .ok (.iload_n 1, 1) := by decide +kernel
theorem dX6_advance_33 : decode cX6_advance 33 = .ok (.putfield 32, 3) := by decide +kernel
theorem dX6_advance_36 : decode cX6_advance 36 = .ok (.aload_n 0, 1) := by decide +kernel
theorem dX6_advance_37 : decode cX6_advance 37 = .ok (.aload_n 0, 1) := by decide +kernel
theorem dX6_advance_38 : decode cX6_advance 38 = .ok (.iload_n 1, 1) := by decide +kernel
theorem dX6_advance_39 : decode cX6_advance 39 = .ok (.invokevirtual 25, 3) := by decide +kernel
theorem dX6_advance_42 : decode cX6_advance 42 = .ok (.invokestatic 29, 3) := by decide +kernel
theorem dX6_advance_45 : decode cX6_advance 45 = .ok (.putfield 35, 3) := by decide +kernel
theorem dX6_advance_48 : decode cX6_advance 48 = .ok (.aload_n 0, 1) := by decide +kernel
theorem dX6_advance_49 : decode cX6_advance 49 = .ok (.aload_n 0, 1) := by decide +kernel
theorem dX6_advance_50 : decode cX6_advance 50 = .ok (.getfield 35, 3) := by decide +kernel
theorem dX6_advance_53 : decode cX6_advance 53 = .ok (.ifCond .ne 7, 3) := by decide +kernel
theorem dX6_advance_56 : decode cX6_advance 56 = .ok (.iload_n 1, 1) := by decide +kernel
theorem dX6_advance_57 : decode cX6_advance 57 = .ok (.goto 6, 3) := by decide +kernel
theorem dX6_advance_60 : decode cX6_advance 60 = .ok (.iload_n 1, 1) := by decide +kernel
theorem dX6_advance_61 : decode cX6_advance 61 = .ok (.iconst 1, 1) := by decide +kernel
theorem dX6_advance_62 : decode cX6_advance 62 = .ok (.iadd, 1) := by decide +kernel
theorem dX6_advance_63 : decode cX6_advance 63 = .ok (.putfield 19, 3) := by decide +kernel
theorem dX6_advance_66 : decode cX6_advance 66 = .ok (.aload_n 0, 1) := by decide +kernel
theorem dX6_advance_67 : decode cX6_advance 67 = .ok (.getfield 35, 3) := by decide +kernel
theorem dX6_advance_70 : decode cX6_advance 70 = .ok (.iconst 1, 1) := by decide +kernel
theorem dX6_advance_71 : decode cX6_advance 71 = .ok (.if_icmp .eq 11, 3) := by decide +kernel
theorem dX6_advance_74 : decode cX6_advance 74 = .ok (.aload_n 0, 1) := by decide +kernel
theorem dX6_advance_75 : decode cX6_advance 75 = .ok (.getfield 35, 3) := by decide +kernel
theorem dX6_advance_78 : decode cX6_advance 78 = .ok (.iconst 2, 1) := by decide +kernel
theorem dX6_advance_79 : decode cX6_advance 79 = .ok (.if_icmp .ne 7, 3) := by decide +kernel
theorem dX6_advance_82 : decode cX6_advance 82 = .ok (.iconst 1, 1) := by decide +kernel
theorem dX6_advance_83 : decode cX6_advance 83 = .ok (.goto 4, 3) := by decide +kernel
theorem dX6_advance_86 : decode cX6_advance 86 = .ok (.iconst 0, 1) := by decide +kernel
theorem dX6_advance_87 : decode cX6_advance 87 = .ok (.istore_n 2, 1) := by decide +kernel
theorem dX6_advance_88 : decode cX6_advance 88 = .ok (.iload_n 2, 1) := by decide +kernel
theorem dX6_advance_89 : decode cX6_advance 89 = .ok (.ifCond .eq 45, 3) := by decide +kernel
theorem dX6_advance_92 : decode cX6_advance 92 = .ok (.aload_n 0, 1) := by decide +kernel
theorem dX6_advance_93 : decode cX6_advance 93 = .ok (.getfield 19, 3) := by decide +kernel
theorem dX6_advance_96 : decode cX6_advance 96 = .ok (.aload_n 0, 1) := by decide +kernel
theorem dX6_advance_97 : decode cX6_advance 97 = .ok (.getfield 15, 3) := by decide +kernel
theorem dX6_advance_100 : decode cX6_advance 100 = .ok (.if_icmp .ge 34, 3) := by decide +kernel
theorem dX6_advance_103 : decode cX6_advance 103 = .ok (.aload_n 0, 1) := by decide +kernel
theorem dX6_advance_104 : decode cX6_advance 104 = .ok (.aload_n 0, 1) := by decide +kernel
theorem dX6_advance_105 : decode cX6_advance 105 = .ok (.getfield 19, 3) := by decide +kernel
theorem dX6_advance_108 : decode cX6_advance 108 = .ok (.invokevirtual 25, 3) := by decide +kernel
theorem dX6_advance_111 : decode cX6_advance 111 = .ok (.invokestatic 29, 3) := by decide +kernel
theorem dX6_advance_114 : decode cX6_advance 114 = .ok (.aload_n 0, 1) := by decide +kernel
theorem dX6_advance_115 : decode cX6_advance 115 = .ok (.getfield 35, 3) := by decide +kernel
theorem dX6_advance_118 : decode cX6_advance 118 = .ok (.if_icmp .ne 16, 3) := by decide +kernel
theorem dX6_advance_121 : decode cX6_advance 121 = .ok (.aload_n 0, 1) := by decide +kernel
theorem dX6_advance_122 : decode cX6_advance 122 = .ok (.dup, 1) := by decide +kernel
theorem dX6_advance_123 : decode cX6_advance 123 = .ok (.getfield 19, 3) := by decide +kernel
theorem dX6_advance_126 : decode cX6_advance 126 = .ok (.iconst 1, 1) := by decide +kernel
theorem dX6_advance_127 : decode cX6_advance 127 = .ok (.iadd, 1) := by decide +kernel
theorem dX6_advance_128 : decode cX6_advance 128 = .ok (.putfield 19, 3) := by decide +kernel
theorem dX6_advance_131 : decode cX6_advance 131 = .ok (.goto (-43), 3) := by decide +kernel
theorem dX6_advance_134 : decode cX6_advance 134 = .ok (.return_, 1) := by decide +kernel
theorem dX6_rewind_0 : decode cX6_rewind 0 = .ok (.aload_n 0, 1) := by decide +kernel
theorem dX6_rewind_1 : decode cX6_rewind 1 = .ok (.iconst 0, 1) := by decide +kernel
theorem dX6_rewind_2 : decode cX6_rewind 2 = .ok (.putfield 19, 3) := by decide +kernel
theorem dX6_rewind_5 : decode cX6_rewind 5 = .ok (.aload_n 0, 1) := by decide +kernel
theorem dX6_rewind_6 : decode cX6_rewind 6 = .ok (.invokevirtual 22, 3) := by decide +kernel
theorem dX6_rewind_9 : decode cX6_rewind 9 = .ok (.return_, 1) := by decide +kernel
theorem dX6_isByte_0 : decode cX6_isByte 0 = .ok (.aload_n 0, 1) := by decide +kernel
theorem dX6_isByte_1 : decode cX6_isByte 1 = .ok (.getfield 35, 3) := by decide +kernel
theorem dX6_isByte_4 : decode cX6_isByte 4 = .ok (.iconst 4, 1) := by decide +kernel
theorem dX6_isByte_5 : decode cX6_isByte 5 = .ok (.if_icmp .ne 19, 3) := by decide +kernel
theorem dX6_isByte_8 : decode cX6_isByte 8 = .ok (.aload_n 0, 1) := by decide +kernel
theorem dX6_isByte_9 : decode cX6_isByte 9 = .ok (.aload_n 0, 1) := by decide +kernel
theorem dX6_isByte_10 : decode cX6_isByte 10 = .ok (.getfield 32, 3) := by decide +kernel
theorem dX6_isByte_13 : decode cX6_isByte 13 = .ok (.invokevirtual 25, 3) := by decide +kernel
theorem dX6_isByte_16 : decode cX6_isByte 16 = .ok (.iload_n 1, 1) := by decide +kernel
theorem dX6_isByte_17 : decode cX6_isByte 17 = .ok (.if_icmp .ne 7, 3) := by decide +kernel
theorem dX6_isByte_20 : decode cX6_isByte 20 = .ok (.iconst 1, 1) := by decide +kernel
theorem dX6_isByte_21 : decode cX6_isByte 21 = .ok (.goto 4, 3) := by decide +kernel
theorem dX6_isByte_24 : decode cX6_isByte 24 = .ok (.iconst 0, 1) := by decide +kernel
theorem dX6_isByte_25 : decode cX6_isByte 25 = .ok (.ireturn, 1) := by decide +kernel
theorem dX6_isWord_0 : decode cX6_isWord 0 = .ok (.aload_n 0, 1) := by decide +kernel
theorem dX6_isWord_1 : decode cX6_isWord 1 = .ok (.getfield 35, 3) := by decide +kernel
theorem dX6_isWord_4 : decode cX6_isWord 4 = .ok (.iconst 1, 1) := by decide +kernel
theorem dX6_isWord_5 : decode cX6_isWord 5 = .ok (.if_icmp .ne 19, 3) := by decide +kernel
theorem dX6_isWord_8 : decode cX6_isWord 8 = .ok (.aload_n 0, 1) := by decide +kernel
theorem dX6_isWord_9 : decode cX6_isWord 9 = .ok (.getfield 19, 3) := by decide +kernel
theorem dX6_isWord_12 : decode cX6_isWord 12 = .ok (.aload_n 0, 1) := by decide +kernel
theorem dX6_isWord_13 : decode cX6_isWord 13 = .ok (.getfield 32, 3) := by decide +kernel
theorem dX6_isWord_16 : decode cX6_isWord 16 = .ok (.isub, 1) := by decide +kernel
theorem dX6_isWord_17 : decode cX6_isWord 17 = .ok (.aload_n 1, 1) := by decide +kernel
theorem dX6_isWord_18 : decode cX6_isWord 18 = .ok (.invokevirtual 38, 3) := by decide +kernel
theorem dX6_isWord_21 : decode cX6_isWord 21 = .ok (.if_icmp .eq 5, 3) := by decide +kernel
theorem dX6_isWord_24 : decode cX6_isWord 24 = .ok (.iconst 0, 1) := by decide +kernel
theorem dX6_isWord_25 : decode cX6_isWord 25 = .ok (.ireturn, 1) := by decide +kernel
theorem dX6_isWord_26 : decode cX6_isWord 26 = .ok (.iconst 0, 1) := by decide +kernel
theorem dX6_isWord_27 : decode cX6_isWord 27 = .ok (.istore_n 2, 1) := by decide +kernel
theorem dX6_isWord_28 : decode cX6_isWord 28 = .ok (.iload_n 2, 1) := by decide +kernel
theorem dX6_isWord_29 : decode cX6_isWord 29 = .ok (.aload_n 1, 1) := by decide +kernel
theorem dX6_isWord_30 : decode cX6_isWord 30 = .ok (.invokevirtual 38, 3) := by decide +kernel
theorem dX6_isWord_33 : decode cX6_isWord 33 = .ok (.if_icmp .ge 29, 3) := by decide +kernel
theorem dX6_isWord_36 : decode cX6_isWord 36 = .ok (.aload_n 0, 1) := by decide +kernel
theorem dX6_isWord_37 : decode cX6_isWord 37 = .ok (.aload_n 0, 1) := by decide +kernel
theorem dX6_isWord_38 : decode cX6_isWord 38 = .ok (.getfield 32, 3) := by decide +kernel
theorem dX6_isWord_41 : decode cX6_isWord 41 = .ok (.iload_n 2, 1) := by decide +kernel
theorem dX6_isWord_42 : decode cX6_isWord 42 = .ok (.iadd, 1) := by decide +kernel
theorem dX6_isWord_43 : decode cX6_isWord 43 = .ok (.invokevirtual 25, 3) := by decide +kernel
theorem dX6_isWord_46 : decode cX6_isWord 46 = .ok (.aload_n 1, 1) := by decide +kernel
theorem dX6_isWord_47 : decode cX6_isWord 47 = .ok (.iload_n 2, 1) := by decide +kernel
theorem dX6_isWord_48 : decode cX6_isWord 48 = .ok (.invokevirtual 43, 3) := by decide +kernel
theorem dX6_isWord_51 : decode cX6_isWord 51 = .ok (.if_icmp .eq 5, 3) := by decide +kernel
theorem dX6_isWord_54 : decode cX6_isWord 54 = .ok (.iconst 0, 1) := by decide +kernel
theorem dX6_isWord_55 : decode cX6_isWord 55 = .ok (.ireturn, 1) := by decide +kernel
theorem dX6_isWord_56 : decode cX6_isWord 56 = .ok (.iinc 2 1, 3) := by decide +kernel
theorem dX6_isWord_59 : decode cX6_isWord 59 = .ok (.goto (-31), 3) := by decide +kernel
theorem dX6_isWord_62 : decode cX6_isWord 62 = .ok (.iconst 1, 1) := by decide +kernel
theorem dX6_isWord_63 : decode cX6_isWord 63 = .ok (.ireturn, 1) := by decide +kernel
theorem dX6_wordKey_0 : decode cX6_wordKey 0 = .ok (.lconst 0, 1) := by decide +kernel
theorem dX6_wordKey_1 : decode cX6_wordKey 1 = .ok (.lstore_n 1, 1) := by decide +kernel
theorem dX6_wordKey_2 : decode cX6_wordKey 2 = .ok (.aload_n 0, 1) := by decide +kernel
theorem dX6_wordKey_3 : decode cX6_wordKey 3 = .ok (.getfield 32, 3) := by decide +kernel
theorem dX6_wordKey_6 : decode cX6_wordKey 6 = .ok (.istore_n 3, 1) := by decide +kernel
theorem dX6_wordKey_7 : decode cX6_wordKey 7 = .ok (.iload_n 3, 1) := by decide +kernel
theorem dX6_wordKey_8 : decode cX6_wordKey 8 = .ok (.aload_n 0, 1) := by decide +kernel
theorem dX6_wordKey_9 : decode cX6_wordKey 9 = .ok (.getfield 19, 3) := by decide +kernel
theorem dX6_wordKey_12 : decode cX6_wordKey 12 = .ok (.if_icmp .ge 26, 3) := by decide +kernel
theorem dX6_wordKey_15 : decode cX6_wordKey 15 = .ok (.lload_n 1, 1) := by decide +kernel
theorem dX6_wordKey_16 : decode cX6_wordKey 16 = .ok (.iconst 5, 1) := by decide +kernel
theorem dX6_wordKey_17 : decode cX6_wordKey 17 = .ok (.lshl, 1) := by decide +kernel
theorem dX6_wordKey_18 : decode cX6_wordKey 18 = .ok (.aload_n 0, 1) := by decide +kernel
theorem dX6_wordKey_19 : decode cX6_wordKey 19 = .ok (.iload_n 3, 1) := by decide +kernel
theorem dX6_wordKey_20 : decode cX6_wordKey 20 = .ok (.invokevirtual 25, 3) := by decide +kernel
theorem dX6_wordKey_23 : decode cX6_wordKey 23 = .ok (.i2l, 1) := by decide +kernel
theorem dX6_wordKey_24 : decode cX6_wordKey 24 = .ok (.ladd, 1) := by decide +kernel
theorem dX6_wordKey_25 : decode cX6_wordKey 25 = .ok (.ldc2_w 47, 3) := by decide +kernel
theorem dX6_wordKey_28 : decode cX6_wordKey 28 = .ok (.lsub, 1) := by decide +kernel
theorem dX6_wordKey_29 : decode cX6_wordKey 29 = .ok (.lconst 1, 1) := by decide +kernel
theorem dX6_wordKey_30 : decode cX6_wordKey 30 = .ok (.ladd, 1) := by decide +kernel
theorem dX6_wordKey_31 : decode cX6_wordKey 31 = .ok (.lstore_n 1, 1) := by decide +kernel
theorem dX6_wordKey_32 : decode cX6_wordKey 32 = .ok (.iinc 3 1, 3) := by decide +kernel
theorem dX6_wordKey_35 : decode cX6_wordKey 35 = .ok (.goto (-28), 3) := by decide +kernel
theorem dX6_wordKey_38 : decode cX6_wordKey 38 = .ok (.lload_n 1, 1) := by decide +kernel
theorem dX6_wordKey_39 : decode cX6_wordKey 39 = .ok (.lreturn, 1) := by decide +kernel
theorem dX6_numberValue_0 : decode cX6_numberValue 0 = .ok (.iconst 0, 1) := by decide +kernel
theorem dX6_numberValue_1 : decode cX6_numberValue 1 = .ok (.istore_n 1, 1) := by decide +kernel
theorem dX6_numberValue_2 : decode cX6_numberValue 2 = .ok (.aload_n 0, 1) := by decide +kernel
theorem dX6_numberValue_3 : decode cX6_numberValue 3 = .ok (.getfield 32, 3) := by decide +kernel
theorem dX6_numberValue_6 : decode cX6_numberValue 6 = .ok (.istore_n 2, 1) := by decide +kernel
theorem dX6_numberValue_7 : decode cX6_numberValue 7 = .ok (.iload_n 2, 1) := by decide +kernel
theorem dX6_numberValue_8 : decode cX6_numberValue 8 = .ok (.aload_n 0, 1) := by decide +kernel
theorem dX6_numberValue_9 : decode cX6_numberValue 9 = .ok (.getfield 19, 3) := by decide +kernel
theorem dX6_numberValue_12 : decode cX6_numberValue 12 = .ok (.if_icmp .ge 23, 3) := by decide +kernel
theorem dX6_numberValue_15 : decode cX6_numberValue 15 = .ok (.iload_n 1, 1) := by decide +kernel
theorem dX6_numberValue_16 : decode cX6_numberValue 16 = .ok (.bipush 10, 2) := by decide +kernel
theorem dX6_numberValue_18 : decode cX6_numberValue 18 = .ok (.imul, 1) := by decide +kernel
theorem dX6_numberValue_19 : decode cX6_numberValue 19 = .ok (.aload_n 0, 1) := by decide +kernel
theorem dX6_numberValue_20 : decode cX6_numberValue 20 = .ok (.iload_n 2, 1) := by decide +kernel
theorem dX6_numberValue_21 : decode cX6_numberValue 21 = .ok (.invokevirtual 25, 3) := by decide +kernel
theorem dX6_numberValue_24 : decode cX6_numberValue 24 = .ok (.iadd, 1) := by decide +kernel
theorem dX6_numberValue_25 : decode cX6_numberValue 25 = .ok (.bipush 48, 2) := by decide +kernel
theorem dX6_numberValue_27 : decode cX6_numberValue 27 = .ok (.isub, 1) := by decide +kernel
theorem dX6_numberValue_28 : decode cX6_numberValue 28 = .ok (.istore_n 1, 1) := by decide +kernel
theorem dX6_numberValue_29 : decode cX6_numberValue 29 = .ok (.iinc 2 1, 3) := by decide +kernel
theorem dX6_numberValue_32 : decode cX6_numberValue 32 = .ok (.goto (-25), 3) := by decide +kernel
theorem dX6_numberValue_35 : decode cX6_numberValue 35 = .ok (.iload_n 1, 1) := by decide +kernel
theorem dX6_numberValue_36 : decode cX6_numberValue 36 = .ok (.ireturn, 1) := by decide +kernel
set_option maxRecDepth 20000 in
theorem ggX6_advance_X6_byteAt : GoodIn wsX6_advance wsX6_byteAt := goodIn_r _ [9, 2, 10, 14, 15, 16, 17, 18] rfl (by decide +kernel)
set_option maxRecDepth 20000 in
theorem gX6_advance_X6_byteAt : GoodIn wsX6_advance (wsV RX6 25 RX6 yX6_byteAt wsX6_byteAt) := goodIn_app (goodIn_of _ (by decide +kernel)) ggX6_advance_X6_byteAt
set_option maxRecDepth 20000 in
theorem ggX6_advance_X6_kindOf : GoodIn wsX6_advance wsX6_kindOf := goodIn_r _ [13] rfl (by decide +kernel)
set_option maxRecDepth 20000 in
theorem gX6_advance_X6_kindOf : GoodIn wsX6_advance (va_wsS RX6 29 yX6_kindOf wsX6_kindOf) := goodIn_app (goodIn_of _ (by decide +kernel)) ggX6_advance_X6_kindOf
set_option maxRecDepth 20000 in
theorem ggX6_rewind_X6_advance : GoodIn wsX6_rewind wsX6_advance := goodIn_r _ [6, 1, 7, 8, 9, 10, 11, 12, 5, 13, 14, 15, 16, 17, 18, 19, 20, 21, 22] rfl (by decide +kernel)
set_option maxRecDepth 20000 in
theorem gX6_rewind_X6_advance : GoodIn wsX6_rewind (wsV RX6 22 RX6 yX6_advance wsX6_advance) := goodIn_app (goodIn_of _ (by decide +kernel)) ggX6_rewind_X6_advance
set_option maxRecDepth 20000 in
theorem ggX6_isByte_X6_byteAt : GoodIn wsX6_isByte wsX6_byteAt := goodIn_r _ [7, 8, 9, 10, 11, 12, 13, 14] rfl (by decide +kernel)
set_option maxRecDepth 20000 in
theorem gX6_isByte_X6_byteAt : GoodIn wsX6_isByte (wsV RX6 25 RX6 yX6_byteAt wsX6_byteAt) := goodIn_app (goodIn_of _ (by decide +kernel)) ggX6_isByte_X6_byteAt
set_option maxRecDepth 20000 in
theorem ggX6_isWord_J0_length_8abf5 : GoodIn wsX6_isWord wsJ0_length_8abf5 := goodIn_r _ [8, 9, 10, 11, 12, 7, 13, 14, 15] rfl (by decide +kernel)
set_option maxRecDepth 20000 in
theorem gX6_isWord_J0_length_8abf5 : GoodIn wsX6_isWord (wsV RX6 38 RJ0 yJ0_length_8abf5 wsJ0_length_8abf5) := goodIn_app (goodIn_of _ (by decide +kernel)) ggX6_isWord_J0_length_8abf5
set_option maxRecDepth 20000 in
theorem ggX6_isWord_X6_byteAt : GoodIn wsX6_isWord wsX6_byteAt := goodIn_r _ [20, 21, 22, 60, 61, 62, 63, 64] rfl (by decide +kernel)
set_option maxRecDepth 20000 in
theorem gX6_isWord_X6_byteAt : GoodIn wsX6_isWord (wsV RX6 25 RX6 yX6_byteAt wsX6_byteAt) := goodIn_app (goodIn_of _ (by decide +kernel)) ggX6_isWord_X6_byteAt
set_option maxRecDepth 20000 in
theorem ggX6_isWord_J0_charAt_5068e : GoodIn wsX6_isWord wsJ0_charAt_5068e := goodIn_r _ [26, 9, 27, 28, 29, 7, 30, 14, 15, 31, 32, 33, 34, 35, 36, 37, 38, 39, 40, 41, 42, 43, 44, 45, 46, 47, 48, 49, 50, 51, 52, 53, 54, 55, 56, 57, 58, 59] rfl (by decide +kernel)
set_option maxRecDepth 20000 in
theorem gX6_isWord_J0_charAt_5068e : GoodIn wsX6_isWord (wsV RX6 43 RJ0 yJ0_charAt_5068e wsJ0_charAt_5068e) := goodIn_app (goodIn_of _ (by decide +kernel)) ggX6_isWord_J0_charAt_5068e
set_option maxRecDepth 20000 in
theorem ggX6_wordKey_X6_byteAt : GoodIn wsX6_wordKey wsX6_byteAt := goodIn_r _ [8, 9, 10, 11, 12, 13, 14, 15] rfl (by decide +kernel)
set_option maxRecDepth 20000 in
theorem gX6_wordKey_X6_byteAt : GoodIn wsX6_wordKey (wsV RX6 25 RX6 yX6_byteAt wsX6_byteAt) := goodIn_app (goodIn_of _ (by decide +kernel)) ggX6_wordKey_X6_byteAt
set_option maxRecDepth 20000 in
theorem ggX6_numberValue_X6_byteAt : GoodIn wsX6_numberValue wsX6_byteAt := goodIn_r _ [7, 8, 9, 10, 11, 12, 13, 14] rfl (by decide +kernel)
set_option maxRecDepth 20000 in
theorem gX6_numberValue_X6_byteAt : GoodIn wsX6_numberValue (wsV RX6 25 RX6 yX6_byteAt wsX6_byteAt) := goodIn_app (goodIn_of _ (by decide +kernel)) ggX6_numberValue_X6_byteAt
theorem i_in400 {n : Int32} (a : ¬ n < 0) (b : ¬ 400 ≤ n) : vp_in n 400 := by
  rw [i_lt] at a
  rw [i_le] at b
  have h0 : (0 : Int32).toInt = 0 := by decide
  have h1 : (400 : Int32).toInt = 400 := by decide
  rw [h0] at a; rw [h1] at b
  exact vp_in_iff.mpr ⟨by omega, by omega⟩
set_option maxHeartbeats 4000000 in
set_option maxRecDepth 100000 in
theorem s_byteAt (l : Launch) (D : va_G) (ws : va_W) (tys : List (ClassId × FieldType)) (tp ktp tl : Nat) (x1 x2 x3 : Int32) (bb kbb : Nat) (cbb : ClassId) (tbb : Nat) (fbb : Nat → Int32) (a1 : Int32) (etp : ws[ktp]? = some (tp, .inr (6, [.int (nI tl), .int x1, .int x2, .int x3, .ref bb]))) (ebb : ws[kbb]? = some (bb, .inl (cbb, 400, .inl fbb))) (ubb : tys[tbb]? = some (cbb, .int)) : Met l yX6_byteAt wsX6_byteAt ({ frames := 0, cells := 0, slots := 0, locals := 0 }) (va_Pc [.ref tp, .int a1] (fun U => va_P D vwCl ws U.heap ∧ va_K D vwCl tys U)) (vp_Si (fun r => r = (-1) ∨ ¬ nI tl ≤ a1)) 0 0 (fun _ => False) := by
  refine Met.ofW (cc := cX6_byteAt) (maxL := 2) (ret := (some .int)) (by decide) rfl ?_
  intro p e s m args below meth c s₁ B hml hv
  obtain ⟨rfl, hP, hK⟩ := hv
  have hx := B.exec
  have hb := B.bytes
  have hr := B.returns
  have hts := atoms_spec (ws := wsX6_byteAt) B.pre
  have hown : s.vm.findClass RX6 = some m.cls := findClass_of_methodNamed B.named
  have hlocks := B.notSynchronized
  have hin6 : ∀ w ∈ u_ws RX6 TX6 5, w ∈ wsX6_byteAt := (fun _ h9 => List.mem_cons_of_mem _ ((List.mem_append_right _ h9)))
  have hl := lv_entry ([.ref tp, .int a1]) (n := 2) (Nat.le_of_ble_eq_true rfl)
  rw [lg_entry_eq]
  generalize (lg_sl ([.ref tp, .int a1]) ++ List.replicate (2 - (lg_sl ([.ref tp, .int a1])).length) Slot.unset).toArray = ls at hl ⊢
  have hl : lv_has ls 2 [(0, .ref tp), (1, .int a1)] := hl
  refine lv_iload_n hx hb dX6_byteAt_0 rfl (lv_at hl 1 rfl) ?_
  refine lv_if_lt (tgt := 30) hx hb dX6_byteAt_1 (by decide) (fun c_1 => ?_) (fun c_1 => ?_)
  · refine lv_iconst (v := (-1)) hx hb dX6_byteAt_30 (by decide) ?_
    exact W.iret (v := (-1)) hx hb hr (fun t ht hW => ⟨(-1), rfl, Or.inl rfl, ht⟩) (fun _ h9 => by cases h9) dX6_byteAt_31
  refine lv_iload_n hx hb dX6_byteAt_4 rfl (lv_at hl 1 rfl) ?_
  refine lv_aload_n hx hb dX6_byteAt_5 rfl (lv_at hl 0 rfl) ?_
  refine va_get (D := D) (ci := 6) (v := .int (nI tl)) (C := RX6) (T := TX6) (N := 5) hx hb hts hin6 hown hK hP ktp etp rfl 0 (by decide) (hts (.fieldLink RX6 15 "HoneyHouse$Tape" "length" "I") (List.mem_of_getElem? (i := 1) rfl)) (fun _ h9 => h9) rfl dX6_byteAt_6 ?_
  refine lv_icmp_ge (tgt := 30) hx hb dX6_byteAt_9 (by decide) (fun c_2 => ?_) (fun c_2 => ?_)
  · refine lv_iconst (v := (-1)) hx hb dX6_byteAt_30 (by decide) ?_
    exact W.iret (v := (-1)) hx hb hr (fun t ht hW => ⟨(-1), rfl, Or.inl rfl, ht⟩) (fun _ h9 => by cases h9) dX6_byteAt_31
  refine lv_iload_n hx hb dX6_byteAt_12 rfl (lv_at hl 1 rfl) ?_
  refine lv_aload_n hx hb dX6_byteAt_13 rfl (lv_at hl 0 rfl) ?_
  refine va_get (D := D) (ci := 6) (v := .ref bb) (C := RX6) (T := TX6) (N := 5) hx hb hts hin6 hown hK hP ktp etp rfl 4 (by decide) (hts (.fieldLink RX6 9 "HoneyHouse$Tape" "bytes" "[I") (List.mem_of_getElem? (i := 2) rfl)) (fun _ h9 => h9) rfl dX6_byteAt_14 ?_
  refine va_alen (v := 400) hx hb hK hP kbb tbb ebb ubb rfl dX6_byteAt_17 ?_
  refine lv_icmp_ge (tgt := 30) hx hb dX6_byteAt_18 (by decide) (fun c_3 => ?_) (fun c_3 => ?_)
  · refine lv_iconst (v := (-1)) hx hb dX6_byteAt_30 (by decide) ?_
    exact W.iret (v := (-1)) hx hb hr (fun t ht hW => ⟨(-1), rfl, Or.inl rfl, ht⟩) (fun _ h9 => by cases h9) dX6_byteAt_31
  refine lv_aload_n hx hb dX6_byteAt_21 rfl (lv_at hl 0 rfl) ?_
  refine va_get (D := D) (ci := 6) (v := .ref bb) (C := RX6) (T := TX6) (N := 5) hx hb hts hin6 hown hK hP ktp etp rfl 4 (by decide) (hts (.fieldLink RX6 9 "HoneyHouse$Tape" "bytes" "[I") (List.mem_of_getElem? (i := 2) rfl)) (fun _ h9 => h9) rfl dX6_byteAt_22 ?_
  refine lv_iload_n hx hb dX6_byteAt_25 rfl (lv_at hl 1 rfl) ?_
  refine va_iald (f := fbb) (n := 400) hx hb hK hP kbb tbb ebb ubb (i_in400 c_1 c_3) dX6_byteAt_26 ?_
  refine lv_goto (tgt := 31) hx hb dX6_byteAt_27 (by decide) ?_
  exact W.iret (v := fbb a1.toNatClampNeg) hx hb hr (fun t ht hW => ⟨fbb a1.toNatClampNeg, rfl, Or.inr c_2, ht⟩) (fun _ h9 => by cases h9) dX6_byteAt_31
set_option maxHeartbeats 4000000 in
set_option maxRecDepth 100000 in
theorem s_kindOf (l : Launch) (n : Int32) : Met l yX6_kindOf wsX6_kindOf ({ frames := 0, cells := 0, slots := 0, locals := 0 }) (va_Pc [.int n] (fun _ => True)) (vp_Si (fun r => (n = (-1) → r = 0) ∧ ∃ k : Nat, k ≤ 4 ∧ r = nI k)) 0 0 (fun _ => False) := by
  refine Met.ofW (cc := cX6_kindOf) (maxL := 1) (ret := (some .int)) (by decide) rfl ?_
  intro p e s m args below meth c s₁ B hml hv
  obtain ⟨rfl, -⟩ := hv
  have hx := B.exec
  have hb := B.bytes
  have hr := B.returns
  have hts := atoms_spec (ws := wsX6_kindOf) B.pre
  have hown : s.vm.findClass RX6 = some m.cls := findClass_of_methodNamed B.named
  have hlocks := B.notSynchronized
  have hl := lv_entry ([.int n]) (n := 1) (Nat.le_of_ble_eq_true rfl)
  rw [lg_entry_eq]
  generalize (lg_sl ([.int n]) ++ List.replicate (1 - (lg_sl ([.int n])).length) Slot.unset).toArray = ls at hl ⊢
  have hl : lv_has ls 1 [(0, .int n)] := hl
  refine lv_iload_n hx hb dX6_kindOf_0 rfl (lv_at hl 0 rfl) ?_
  refine lv_bipush (v := 97) hx hb dX6_kindOf_1 (by decide) ?_
  refine lv_icmp_lt (tgt := 14) hx hb dX6_kindOf_3 (by decide) (fun c_1 => ?_) (fun c_1 => ?_)
  · refine lv_iload_n hx hb dX6_kindOf_14 rfl (lv_at hl 0 rfl) ?_
    refine lv_bipush (v := 48) hx hb dX6_kindOf_15 (by decide) ?_
    refine lv_icmp_lt (tgt := 28) hx hb dX6_kindOf_17 (by decide) (fun c_2 => ?_) (fun c_2 => ?_)
    · refine lv_iload_n hx hb dX6_kindOf_28 rfl (lv_at hl 0 rfl) ?_
      refine lv_bipush (v := 10) hx hb dX6_kindOf_29 (by decide) ?_
      refine lv_icmp_eq (tgt := 40) hx hb dX6_kindOf_31 (by decide) (fun c_3 => ?_) (fun c_3 => ?_)
      · refine lv_iconst (v := 3) hx hb dX6_kindOf_40 (by decide) ?_
        exact W.iret (v := 3) hx hb hr (fun t ht hW => ⟨3, rfl, ⟨fun h9 => by subst h9; revert c_1 c_2 c_3; decide, 3, by omega, rfl⟩, ht⟩) (fun _ h9 => by cases h9) dX6_kindOf_41
      refine lv_iload_n hx hb dX6_kindOf_34 rfl (lv_at hl 0 rfl) ?_
      refine lv_bipush (v := 32) hx hb dX6_kindOf_35 (by decide) ?_
      refine lv_icmp_ne (tgt := 42) hx hb dX6_kindOf_37 (by decide) (fun c_4 => ?_) (fun c_4 => ?_)
      · refine lv_iload_n hx hb dX6_kindOf_42 rfl (lv_at hl 0 rfl) ?_
        refine lv_iconst (v := (-1)) hx hb dX6_kindOf_43 (by decide) ?_
        refine lv_icmp_ne (tgt := 51) hx hb dX6_kindOf_44 (by decide) (fun c_5 => ?_) (fun c_5 => ?_)
        · refine lv_iconst (v := 4) hx hb dX6_kindOf_51 (by decide) ?_
          exact W.iret (v := 4) hx hb hr (fun t ht hW => ⟨4, rfl, ⟨fun h9 => by subst h9; revert c_1 c_2 c_3 c_4 c_5; decide, 4, by omega, rfl⟩, ht⟩) (fun _ h9 => by cases h9) dX6_kindOf_52
        refine lv_iconst (v := 0) hx hb dX6_kindOf_47 (by decide) ?_
        refine lv_goto (tgt := 52) hx hb dX6_kindOf_48 (by decide) ?_
        exact W.iret (v := 0) hx hb hr (fun t ht hW => ⟨0, rfl, ⟨fun h9 => by subst h9; revert c_1 c_2 c_3 c_4 c_5; decide, 0, by omega, rfl⟩, ht⟩) (fun _ h9 => by cases h9) dX6_kindOf_52
      refine lv_iconst (v := 3) hx hb dX6_kindOf_40 (by decide) ?_
      exact W.iret (v := 3) hx hb hr (fun t ht hW => ⟨3, rfl, ⟨fun h9 => by subst h9; revert c_1 c_2 c_3 c_4; decide, 3, by omega, rfl⟩, ht⟩) (fun _ h9 => by cases h9) dX6_kindOf_41
    refine lv_iload_n hx hb dX6_kindOf_20 rfl (lv_at hl 0 rfl) ?_
    refine lv_bipush (v := 57) hx hb dX6_kindOf_21 (by decide) ?_
    refine lv_icmp_gt (tgt := 28) hx hb dX6_kindOf_23 (by decide) (fun c_6 => ?_) (fun c_6 => ?_)
    · refine lv_iload_n hx hb dX6_kindOf_28 rfl (lv_at hl 0 rfl) ?_
      refine lv_bipush (v := 10) hx hb dX6_kindOf_29 (by decide) ?_
      refine lv_icmp_eq (tgt := 40) hx hb dX6_kindOf_31 (by decide) (fun c_7 => ?_) (fun c_7 => ?_)
      · refine lv_iconst (v := 3) hx hb dX6_kindOf_40 (by decide) ?_
        exact W.iret (v := 3) hx hb hr (fun t ht hW => ⟨3, rfl, ⟨fun h9 => by subst h9; revert c_1 c_2 c_6 c_7; decide, 3, by omega, rfl⟩, ht⟩) (fun _ h9 => by cases h9) dX6_kindOf_41
      refine lv_iload_n hx hb dX6_kindOf_34 rfl (lv_at hl 0 rfl) ?_
      refine lv_bipush (v := 32) hx hb dX6_kindOf_35 (by decide) ?_
      refine lv_icmp_ne (tgt := 42) hx hb dX6_kindOf_37 (by decide) (fun c_8 => ?_) (fun c_8 => ?_)
      · refine lv_iload_n hx hb dX6_kindOf_42 rfl (lv_at hl 0 rfl) ?_
        refine lv_iconst (v := (-1)) hx hb dX6_kindOf_43 (by decide) ?_
        refine lv_icmp_ne (tgt := 51) hx hb dX6_kindOf_44 (by decide) (fun c_9 => ?_) (fun c_9 => ?_)
        · refine lv_iconst (v := 4) hx hb dX6_kindOf_51 (by decide) ?_
          exact W.iret (v := 4) hx hb hr (fun t ht hW => ⟨4, rfl, ⟨fun h9 => by subst h9; revert c_1 c_2 c_6 c_7 c_8 c_9; decide, 4, by omega, rfl⟩, ht⟩) (fun _ h9 => by cases h9) dX6_kindOf_52
        refine lv_iconst (v := 0) hx hb dX6_kindOf_47 (by decide) ?_
        refine lv_goto (tgt := 52) hx hb dX6_kindOf_48 (by decide) ?_
        exact W.iret (v := 0) hx hb hr (fun t ht hW => ⟨0, rfl, ⟨fun h9 => by subst h9; revert c_1 c_2 c_6 c_7 c_8 c_9; decide, 0, by omega, rfl⟩, ht⟩) (fun _ h9 => by cases h9) dX6_kindOf_52
      refine lv_iconst (v := 3) hx hb dX6_kindOf_40 (by decide) ?_
      exact W.iret (v := 3) hx hb hr (fun t ht hW => ⟨3, rfl, ⟨fun h9 => by subst h9; revert c_1 c_2 c_6 c_7 c_8; decide, 3, by omega, rfl⟩, ht⟩) (fun _ h9 => by cases h9) dX6_kindOf_41
    refine lv_iconst (v := 2) hx hb dX6_kindOf_26 (by decide) ?_
    exact W.iret (v := 2) hx hb hr (fun t ht hW => ⟨2, rfl, ⟨fun h9 => by subst h9; revert c_1 c_2 c_6; decide, 2, by omega, rfl⟩, ht⟩) (fun _ h9 => by cases h9) dX6_kindOf_27
  refine lv_iload_n hx hb dX6_kindOf_6 rfl (lv_at hl 0 rfl) ?_
  refine lv_bipush (v := 122) hx hb dX6_kindOf_7 (by decide) ?_
  refine lv_icmp_gt (tgt := 14) hx hb dX6_kindOf_9 (by decide) (fun c_10 => ?_) (fun c_10 => ?_)
  · refine lv_iload_n hx hb dX6_kindOf_14 rfl (lv_at hl 0 rfl) ?_
    refine lv_bipush (v := 48) hx hb dX6_kindOf_15 (by decide) ?_
    refine lv_icmp_lt (tgt := 28) hx hb dX6_kindOf_17 (by decide) (fun c_11 => ?_) (fun c_11 => ?_)
    · refine lv_iload_n hx hb dX6_kindOf_28 rfl (lv_at hl 0 rfl) ?_
      refine lv_bipush (v := 10) hx hb dX6_kindOf_29 (by decide) ?_
      refine lv_icmp_eq (tgt := 40) hx hb dX6_kindOf_31 (by decide) (fun c_12 => ?_) (fun c_12 => ?_)
      · refine lv_iconst (v := 3) hx hb dX6_kindOf_40 (by decide) ?_
        exact W.iret (v := 3) hx hb hr (fun t ht hW => ⟨3, rfl, ⟨fun h9 => by subst h9; revert c_1 c_10 c_11 c_12; decide, 3, by omega, rfl⟩, ht⟩) (fun _ h9 => by cases h9) dX6_kindOf_41
      refine lv_iload_n hx hb dX6_kindOf_34 rfl (lv_at hl 0 rfl) ?_
      refine lv_bipush (v := 32) hx hb dX6_kindOf_35 (by decide) ?_
      refine lv_icmp_ne (tgt := 42) hx hb dX6_kindOf_37 (by decide) (fun c_13 => ?_) (fun c_13 => ?_)
      · refine lv_iload_n hx hb dX6_kindOf_42 rfl (lv_at hl 0 rfl) ?_
        refine lv_iconst (v := (-1)) hx hb dX6_kindOf_43 (by decide) ?_
        refine lv_icmp_ne (tgt := 51) hx hb dX6_kindOf_44 (by decide) (fun c_14 => ?_) (fun c_14 => ?_)
        · refine lv_iconst (v := 4) hx hb dX6_kindOf_51 (by decide) ?_
          exact W.iret (v := 4) hx hb hr (fun t ht hW => ⟨4, rfl, ⟨fun h9 => by subst h9; revert c_1 c_10 c_11 c_12 c_13 c_14; decide, 4, by omega, rfl⟩, ht⟩) (fun _ h9 => by cases h9) dX6_kindOf_52
        refine lv_iconst (v := 0) hx hb dX6_kindOf_47 (by decide) ?_
        refine lv_goto (tgt := 52) hx hb dX6_kindOf_48 (by decide) ?_
        exact W.iret (v := 0) hx hb hr (fun t ht hW => ⟨0, rfl, ⟨fun h9 => by subst h9; revert c_1 c_10 c_11 c_12 c_13 c_14; decide, 0, by omega, rfl⟩, ht⟩) (fun _ h9 => by cases h9) dX6_kindOf_52
      refine lv_iconst (v := 3) hx hb dX6_kindOf_40 (by decide) ?_
      exact W.iret (v := 3) hx hb hr (fun t ht hW => ⟨3, rfl, ⟨fun h9 => by subst h9; revert c_1 c_10 c_11 c_12 c_13; decide, 3, by omega, rfl⟩, ht⟩) (fun _ h9 => by cases h9) dX6_kindOf_41
    refine lv_iload_n hx hb dX6_kindOf_20 rfl (lv_at hl 0 rfl) ?_
    refine lv_bipush (v := 57) hx hb dX6_kindOf_21 (by decide) ?_
    refine lv_icmp_gt (tgt := 28) hx hb dX6_kindOf_23 (by decide) (fun c_15 => ?_) (fun c_15 => ?_)
    · refine lv_iload_n hx hb dX6_kindOf_28 rfl (lv_at hl 0 rfl) ?_
      refine lv_bipush (v := 10) hx hb dX6_kindOf_29 (by decide) ?_
      refine lv_icmp_eq (tgt := 40) hx hb dX6_kindOf_31 (by decide) (fun c_16 => ?_) (fun c_16 => ?_)
      · refine lv_iconst (v := 3) hx hb dX6_kindOf_40 (by decide) ?_
        exact W.iret (v := 3) hx hb hr (fun t ht hW => ⟨3, rfl, ⟨fun h9 => by subst h9; revert c_1 c_10 c_11 c_15 c_16; decide, 3, by omega, rfl⟩, ht⟩) (fun _ h9 => by cases h9) dX6_kindOf_41
      refine lv_iload_n hx hb dX6_kindOf_34 rfl (lv_at hl 0 rfl) ?_
      refine lv_bipush (v := 32) hx hb dX6_kindOf_35 (by decide) ?_
      refine lv_icmp_ne (tgt := 42) hx hb dX6_kindOf_37 (by decide) (fun c_17 => ?_) (fun c_17 => ?_)
      · refine lv_iload_n hx hb dX6_kindOf_42 rfl (lv_at hl 0 rfl) ?_
        refine lv_iconst (v := (-1)) hx hb dX6_kindOf_43 (by decide) ?_
        refine lv_icmp_ne (tgt := 51) hx hb dX6_kindOf_44 (by decide) (fun c_18 => ?_) (fun c_18 => ?_)
        · refine lv_iconst (v := 4) hx hb dX6_kindOf_51 (by decide) ?_
          exact W.iret (v := 4) hx hb hr (fun t ht hW => ⟨4, rfl, ⟨fun h9 => by subst h9; revert c_1 c_10 c_11 c_15 c_16 c_17 c_18; decide, 4, by omega, rfl⟩, ht⟩) (fun _ h9 => by cases h9) dX6_kindOf_52
        refine lv_iconst (v := 0) hx hb dX6_kindOf_47 (by decide) ?_
        refine lv_goto (tgt := 52) hx hb dX6_kindOf_48 (by decide) ?_
        exact W.iret (v := 0) hx hb hr (fun t ht hW => ⟨0, rfl, ⟨fun h9 => by subst h9; revert c_1 c_10 c_11 c_15 c_16 c_17 c_18; decide, 0, by omega, rfl⟩, ht⟩) (fun _ h9 => by cases h9) dX6_kindOf_52
      refine lv_iconst (v := 3) hx hb dX6_kindOf_40 (by decide) ?_
      exact W.iret (v := 3) hx hb hr (fun t ht hW => ⟨3, rfl, ⟨fun h9 => by subst h9; revert c_1 c_10 c_11 c_15 c_16 c_17; decide, 3, by omega, rfl⟩, ht⟩) (fun _ h9 => by cases h9) dX6_kindOf_41
    refine lv_iconst (v := 2) hx hb dX6_kindOf_26 (by decide) ?_
    exact W.iret (v := 2) hx hb hr (fun t ht hW => ⟨2, rfl, ⟨fun h9 => by subst h9; revert c_1 c_10 c_11 c_15; decide, 2, by omega, rfl⟩, ht⟩) (fun _ h9 => by cases h9) dX6_kindOf_27
  refine lv_iconst (v := 1) hx hb dX6_kindOf_12 (by decide) ?_
  exact W.iret (v := 1) hx hb hr (fun t ht hW => ⟨1, rfl, ⟨fun h9 => by subst h9; revert c_1 c_10; decide, 1, by omega, rfl⟩, ht⟩) (fun _ h9 => by cases h9) dX6_kindOf_13
set_option maxHeartbeats 4000000 in
set_option maxRecDepth 100000 in
theorem a_advance (l : Launch) (D : va_G) (ρ : Nat → Nat) (ws : va_W) (tys : List (ClassId × FieldType)) (tp ktp tl te : Nat) (x1 x2 : Int32) (bb kbb : Nat) (cbb : ClassId) (tbb : Nat) (fbb : Nat → Int32) (sz : Nat) (htl : tl ≤ 400) (hte : te ≤ tl) (etp : ws[ktp]? = some (tp, .inr (6, [.int (nI tl), .int x1, .int x2, .int (nI te), .ref bb]))) (ebb : ws[kbb]? = some (bb, .inl (cbb, 400, .inl fbb))) (ubb : tys[tbb]? = some (cbb, .int)) (w_ktp : ρ ktp = 0) : Met l yX6_advance wsX6_advance ({ frames := 1, cells := 0, slots := 0, locals := 21 }) (va_Pc [.ref tp] (fun U => U.heap.size = sz ∧ va_P D vwCl ws U.heap ∧ va_K D vwCl tys U ∧ va_D (fun _ => True) ws)) (va_Qv (fun _ : Unit => True) (fun (_ : Unit) (t : State) => ∃ (ws' : va_W) (tys' : List (ClassId × FieldType)), sm ρ [6] ws ws' ∧ tyx tys tys' ∧ va_P D vwCl ws' t.heap ∧ va_K D vwCl tys' t ∧ va_D (va_A ws sz) ws' ∧ (∃ k s2 e2 : Nat, k ≤ 4 ∧ s2 ≤ e2 ∧ e2 ≤ tl ∧ ws'[ktp]? = some (tp, .inr (6, [.int (nI tl), .int (nI k), .int (nI s2), .int (nI e2), .ref bb])))) (va_A ws sz)) 0 0 (va_A ws sz) := by
  refine Met.ofW (cc := cX6_advance) (maxL := 3) (ret := none) (by decide) rfl ?_
  intro p e s m args below meth c s₁ B hml hv
  obtain ⟨rfl, hsz, hP, hK, hD0⟩ := hv
  have hx := B.exec
  have hb := B.bytes
  have hr := B.returns
  have hts := atoms_spec (ws := wsX6_advance) B.pre
  have hown : s.vm.findClass RX6 = some m.cls := findClass_of_methodNamed B.named
  have hlocks := B.notSynchronized
  subst hsz
  have hD := hD0.self (sz := s.heap.size)
  generalize hAe : va_A ws s.heap.size = A at hD ⊢
  have hA : ∀ q : Nat, s.heap.size ≤ q → A q := fun q h => by rw [← hAe]; exact Or.inr h
  have hS : va_S A s.heap s.heap [] := va_S.rf
  have hsm : sm ρ [6] ws ws := sm.rf ws
  have htx : tyx tys tys := tyx.rf tys
  have hin6 : ∀ w ∈ u_ws RX6 TX6 5, w ∈ wsX6_advance := (fun _ h9 => List.mem_cons_of_mem _ ((List.mem_append_right _ h9)))
  have hl := lv_entry ([.ref tp]) (n := 3) (Nat.le_of_ble_eq_true rfl)
  rw [lg_entry_eq]
  generalize (lg_sl ([.ref tp]) ++ List.replicate (3 - (lg_sl ([.ref tp])).length) Slot.unset).toArray = ls at hl ⊢
  have hl : lv_has ls 3 [(0, .ref tp)] := hl
  refine lv_aload_n hx hb dX6_advance_0 rfl (lv_at hl 0 rfl) ?_
  refine va_get (D := D) (ci := 6) (v := .int (nI te)) (C := RX6) (T := TX6) (N := 5) hx hb hts hin6 hown hK hP ktp etp rfl 3 (by decide) (hts (.fieldLink RX6 19 "HoneyHouse$Tape" "end" "I") (List.mem_of_getElem? (i := 1) rfl)) (fun _ h9 => h9) rfl dX6_advance_1 ?_
  refine lv_istore_n (lv' := [(1, .int (nI te)), (0, .ref tp)]) hx hb dX6_advance_4 rfl hl (by decide) rfl (fun ls hl => ?_)
  refine lp_V (nL := 3) (σ := Nat) (lv := fun x9 => [(1, .int (nI x9)), (0, .ref tp)]) (μ := fun x9 => tl - x9) (J := fun x9 ws9 => sm ρ [6] ws ws9 ∧ (ws9[ktp]? = some (tp, .inr (6, [.int (nI tl), .int x1, .int x2, .int (nI te), .ref bb]))) ∧ (te ≤ x9 ∧ x9 ≤ tl)) (fun x9 ws_4 H locs ls hj hP hD hS hl ih_1 => ?_) te ws _ _ ls ⟨sm.rf _, etp, (show te ≤ te ∧ te ≤ tl from by omega)⟩ hP hD hS (lv_sub hl [0, 1] rfl)
  obtain ⟨a_2, hx9⟩ : ∃ y9, y9 = x9 := ⟨_, rfl⟩
  subst hx9
  replace hj : sm ρ [6] ws ws_4 ∧ (ws_4[ktp]? = some (tp, .inr (6, [.int (nI tl), .int x1, .int x2, .int (nI te), .ref bb]))) ∧ (te ≤ a_2 ∧ a_2 ≤ tl) := hj
  obtain ⟨hm_5, e_7, ha_3⟩ := hj
  obtain ⟨g_9, e_8, h_10⟩ := hm_5.obj etp
  obtain ⟨z_11, z_12, z_13, z_14, rfl⟩ := smX6 h_10
  obtain ⟨f_16, e_15⟩ := hm_5.arrI ebb
  have hsm := hsm.tr (hm_5.mono (by decide))
  have hlp_6 := hm_5
  have hl : lv_has ls 3 [(1, .int (nI a_2)), (0, .ref tp)] := hl
  refine lv_iload_n hx hb dX6_advance_5 rfl (lv_at hl 0 rfl) ?_
  refine lv_aload_n hx hb dX6_advance_6 rfl (lv_at hl 1 rfl) ?_
  refine va_get (D := D) (ci := 6) (v := .int (nI tl)) (C := RX6) (T := TX6) (N := 5) hx hb hts hin6 hown hK hP ktp e_7 rfl 0 (by decide) (hts (.fieldLink RX6 15 "HoneyHouse$Tape" "length" "I") (List.mem_of_getElem? (i := 2) rfl)) (fun _ h9 => h9) rfl dX6_advance_7 ?_
  refine lv_icmp_ge (tgt := 31) hx hb dX6_advance_10 (by decide) (fun c_17 => ?_) (fun c_17 => ?_)
  · have d_18 := n_le (a := tl) (b := a_2) (by omega) (by omega) c_17
    refine lv_aload_n hx hb dX6_advance_31 rfl (lv_at hl 1 rfl) ?_
    refine lv_iload_n hx hb dX6_advance_32 rfl (lv_at hl 0 rfl) ?_
    refine va_put (D := D) (ci := 6) (v := .int (nI a_2)) (ty := .int) (C := RX6) (T := TX6) (N := 5) hx hb hts hin6 tyX6 tyX6_ok nmX6 hown hK hP hD hS ktp e_7 rfl 2 (by decide) (hts (.fieldLink RX6 32 "HoneyHouse$Tape" "start" "I") (List.mem_of_getElem? (i := 3) rfl)) (fun _ h9 => h9) rfl (tyX6_ok 2 (by decide)) rfl rfl (Nat.le_of_ble_eq_true rfl) dX6_advance_33 (fun H locs hP hD hS => ?_)
    have hP : va_P D vwCl (ws_4.set ktp (tp, .inr (6, [.int (nI tl), .int x1, .int (nI a_2), .int (nI te), .ref bb]))) H := hP
    have hD : va_D A (ws_4.set ktp (tp, .inr (6, [.int (nI tl), .int x1, .int (nI a_2), .int (nI te), .ref bb]))) := hD
    have hm_20 : sm ρ [6] ws_4 (ws_4.set ktp (tp, .inr (6, [.int (nI tl), .int x1, .int (nI a_2), .int (nI te), .ref bb]))) := sm.flds e_7 (smF.c (smV.rf _) (smF.c (smV.rf _) (smF.c (smV.i _ _) (smF.c (smV.rf _) (smF.c (smV.rf _) (rfl)))))) (List.mem_singleton.mpr rfl) w_ktp
    have e_21 : (ws_4.set ktp (tp, .inr (6, [.int (nI tl), .int x1, .int (nI a_2), .int (nI te), .ref bb])))[ktp]? = some (tp, .inr (6, [.int (nI tl), .int x1, .int (nI a_2), .int (nI te), .ref bb])) := wset_self e_7
    generalize ws_4.set ktp (tp, .inr (6, [.int (nI tl), .int x1, .int (nI a_2), .int (nI te), .ref bb])) = ws_19 at hP hD hm_20 e_21
    obtain ⟨f_23, e_22⟩ := hm_20.arrI e_15
    have hsm := hsm.tr (hm_20.mono (by decide))
    have hlp_6 := hlp_6.tr (hm_20.mono (by decide))
    refine lv_aload_n hx hb dX6_advance_36 rfl (lv_at hl 1 rfl) ?_
    refine lv_aload_n hx hb dX6_advance_37 rfl (lv_at hl 1 rfl) ?_
    refine lv_iload_n hx hb dX6_advance_38 rfl (lv_at hl 0 rfl) ?_
    refine vp_callSi (W.runV (As := [.int (nI a_2)]) (rest := [.ref tp]) ⟨hx, hb, hml, hown, hts⟩ (s_byteAt l D ws_19 tys tp ktp tl x1 (nI a_2) (nI te) bb kbb cbb tbb f_23 (nI a_2) e_21 e_22 ubb) (cwV 1 hts gX6_advance_X6_byteAt rfl rfl rfl (by decide +kernel) ⟨Nat.le_of_ble_eq_true rfl, Nat.le_of_ble_eq_true rfl⟩) ⟨fun a U g mk q => ⟨q.1, q.2.1, va_K.moved (u := U) (U := U.calling g mk a) (Vm.Alike.refl U.vm) q.2.2⟩, va_recv hK hP (ci := 6) (q0 := ktp) rfl e_21, fun U hU hW => ⟨rfl, by rw [hU]; exact hP, va_K.moved hW.alike hK⟩⟩ rfl rfl hl.1 rfl (lv_room (Nat.le_of_ble_eq_true rfl)) dX6_advance_39 ⟨Nat.le_of_ble_eq_true rfl, Nat.le_of_ble_eq_true rfl⟩) (fun r_24 k_25 => ?_)
    refine vp_callSi (W.runS (As := [.int r_24]) (rest := [.ref tp]) ⟨hx, hb, hml, hown, hts⟩ (s_kindOf l r_24) (va_cwS 1 hts gX6_advance_X6_kindOf rfl rfl rfl (by decide +kernel) ⟨Nat.le_of_ble_eq_true rfl, Nat.le_of_ble_eq_true rfl⟩) ⟨fun a U g mk q => q, fun U hU hW => ⟨rfl, trivial⟩⟩ rfl rfl hl.1 rfl (lv_room (Nat.le_of_ble_eq_true rfl)) dX6_advance_42 ⟨Nat.le_of_ble_eq_true rfl, Nat.le_of_ble_eq_true rfl⟩) (fun r_26 k_27 => ?_)
    obtain ⟨hk_28, k_29, hk_30, rfl⟩ := k_27
    refine va_put (D := D) (ci := 6) (v := .int (nI k_29)) (ty := .int) (C := RX6) (T := TX6) (N := 5) hx hb hts hin6 tyX6 tyX6_ok nmX6 hown hK hP hD hS ktp e_21 rfl 1 (by decide) (hts (.fieldLink RX6 35 "HoneyHouse$Tape" "kind" "I") (List.mem_of_getElem? (i := 4) rfl)) (fun _ h9 => h9) rfl (tyX6_ok 1 (by decide)) rfl rfl (Nat.le_of_ble_eq_true rfl) dX6_advance_45 (fun H locs hP hD hS => ?_)
    have hP : va_P D vwCl (ws_19.set ktp (tp, .inr (6, [.int (nI tl), .int (nI k_29), .int (nI a_2), .int (nI te), .ref bb]))) H := hP
    have hD : va_D A (ws_19.set ktp (tp, .inr (6, [.int (nI tl), .int (nI k_29), .int (nI a_2), .int (nI te), .ref bb]))) := hD
    have hm_32 : sm ρ [6] ws_19 (ws_19.set ktp (tp, .inr (6, [.int (nI tl), .int (nI k_29), .int (nI a_2), .int (nI te), .ref bb]))) := sm.flds e_21 (smF.c (smV.rf _) (smF.c (smV.i _ _) (smF.c (smV.rf _) (smF.c (smV.rf _) (smF.c (smV.rf _) (rfl)))))) (List.mem_singleton.mpr rfl) w_ktp
    have e_33 : (ws_19.set ktp (tp, .inr (6, [.int (nI tl), .int (nI k_29), .int (nI a_2), .int (nI te), .ref bb])))[ktp]? = some (tp, .inr (6, [.int (nI tl), .int (nI k_29), .int (nI a_2), .int (nI te), .ref bb])) := wset_self e_21
    generalize ws_19.set ktp (tp, .inr (6, [.int (nI tl), .int (nI k_29), .int (nI a_2), .int (nI te), .ref bb])) = ws_31 at hP hD hm_32 e_33
    obtain ⟨f_35, e_34⟩ := hm_32.arrI e_22
    have hsm := hsm.tr (hm_32.mono (by decide))
    have hlp_6 := hlp_6.tr (hm_32.mono (by decide))
    refine lv_aload_n hx hb dX6_advance_48 rfl (lv_at hl 1 rfl) ?_
    refine lv_aload_n hx hb dX6_advance_49 rfl (lv_at hl 1 rfl) ?_
    refine va_get (D := D) (ci := 6) (v := .int (nI k_29)) (C := RX6) (T := TX6) (N := 5) hx hb hts hin6 hown hK hP ktp e_33 rfl 1 (by decide) (hts (.fieldLink RX6 35 "HoneyHouse$Tape" "kind" "I") (List.mem_of_getElem? (i := 4) rfl)) (fun _ h9 => h9) rfl dX6_advance_50 ?_
    refine lv_if_ne (tgt := 60) hx hb dX6_advance_53 (by decide) (fun c_36 => ?_) (fun c_36 => ?_)
    · have d_37 := n_ne (a := k_29) (b := 0) (by omega) (by omega) c_36
      have hlt : a_2 < tl := k_25.elim (fun q => absurd (n_eq (a := k_29) (b := 0) (by omega) (by omega) (hk_28 q)) d_37) (fun q => n_nle (a := tl) (b := a_2) (by omega) (by omega) q)
      refine lv_iload_n hx hb dX6_advance_60 rfl (lv_at hl 0 rfl) ?_
      refine lv_iconst (v := 1) hx hb dX6_advance_61 (by decide) ?_
      refine lv_iadd hx hb dX6_advance_62 ?_
      refine tp_i (y := nI (a_2 + 1)) (nI_add a_2 1) ?_
      refine va_put (D := D) (ci := 6) (v := .int (nI (a_2 + 1))) (ty := .int) (C := RX6) (T := TX6) (N := 5) hx hb hts hin6 tyX6 tyX6_ok nmX6 hown hK hP hD hS ktp e_33 rfl 3 (by decide) (hts (.fieldLink RX6 19 "HoneyHouse$Tape" "end" "I") (List.mem_of_getElem? (i := 1) rfl)) (fun _ h9 => h9) rfl (tyX6_ok 3 (by decide)) rfl rfl (Nat.le_of_ble_eq_true rfl) dX6_advance_63 (fun H locs hP hD hS => ?_)
      have hP : va_P D vwCl (ws_31.set ktp (tp, .inr (6, [.int (nI tl), .int (nI k_29), .int (nI a_2), .int (nI (a_2 + 1)), .ref bb]))) H := hP
      have hD : va_D A (ws_31.set ktp (tp, .inr (6, [.int (nI tl), .int (nI k_29), .int (nI a_2), .int (nI (a_2 + 1)), .ref bb]))) := hD
      have hm_39 : sm ρ [6] ws_31 (ws_31.set ktp (tp, .inr (6, [.int (nI tl), .int (nI k_29), .int (nI a_2), .int (nI (a_2 + 1)), .ref bb]))) := sm.flds e_33 (smF.c (smV.rf _) (smF.c (smV.rf _) (smF.c (smV.rf _) (smF.c (smV.i _ _) (smF.c (smV.rf _) (rfl)))))) (List.mem_singleton.mpr rfl) w_ktp
      have e_40 : (ws_31.set ktp (tp, .inr (6, [.int (nI tl), .int (nI k_29), .int (nI a_2), .int (nI (a_2 + 1)), .ref bb])))[ktp]? = some (tp, .inr (6, [.int (nI tl), .int (nI k_29), .int (nI a_2), .int (nI (a_2 + 1)), .ref bb])) := wset_self e_33
      generalize ws_31.set ktp (tp, .inr (6, [.int (nI tl), .int (nI k_29), .int (nI a_2), .int (nI (a_2 + 1)), .ref bb])) = ws_38 at hP hD hm_39 e_40
      obtain ⟨f_42, e_41⟩ := hm_39.arrI e_34
      have hsm := hsm.tr (hm_39.mono (by decide))
      have hlp_6 := hlp_6.tr (hm_39.mono (by decide))
      refine lv_aload_n hx hb dX6_advance_66 rfl (lv_at hl 1 rfl) ?_
      refine va_get (D := D) (ci := 6) (v := .int (nI k_29)) (C := RX6) (T := TX6) (N := 5) hx hb hts hin6 hown hK hP ktp e_40 rfl 1 (by decide) (hts (.fieldLink RX6 35 "HoneyHouse$Tape" "kind" "I") (List.mem_of_getElem? (i := 4) rfl)) (fun _ h9 => h9) rfl dX6_advance_67 ?_
      refine lv_iconst (v := 1) hx hb dX6_advance_70 (by decide) ?_
      refine lv_icmp_eq (tgt := 82) hx hb dX6_advance_71 (by decide) (fun c_43 => ?_) (fun c_43 => ?_)
      · have d_44 := n_eq (a := k_29) (b := 1) (by omega) (by omega) c_43
        refine lv_iconst (v := 1) hx hb dX6_advance_82 (by decide) ?_
        refine lv_goto (tgt := 87) hx hb dX6_advance_83 (by decide) ?_
        refine lv_istore_n (lv' := [(2, .int 1), (1, .int (nI a_2)), (0, .ref tp)]) hx hb dX6_advance_87 rfl hl (by decide) rfl (fun ls hl => ?_)
        refine lp_V (nL := 3) (σ := Nat) (lv := fun x9 => [(2, .int 1), (0, .ref tp)]) (μ := fun x9 => tl - x9) (J := fun x9 ws9 => sm ρ [6] ws_38 ws9 ∧ (ws9[ktp]? = some (tp, .inr (6, [.int (nI tl), .int (nI k_29), .int (nI a_2), .int (nI x9), .ref bb]))) ∧ (a_2 ≤ x9 ∧ x9 ≤ tl)) (fun x9 ws_48 H locs ls hj hP hD hS hl ih_45 => ?_) (a_2 + 1) ws_38 _ _ ls ⟨sm.rf _, e_40, (show a_2 ≤ (a_2 + 1) ∧ (a_2 + 1) ≤ tl from by omega)⟩ hP hD hS (lv_sub hl [0, 2] rfl)
        obtain ⟨e9_46, hx9⟩ : ∃ y9, y9 = x9 := ⟨_, rfl⟩
        subst hx9
        replace hj : sm ρ [6] ws_38 ws_48 ∧ (ws_48[ktp]? = some (tp, .inr (6, [.int (nI tl), .int (nI k_29), .int (nI a_2), .int (nI e9_46), .ref bb]))) ∧ (a_2 ≤ e9_46 ∧ e9_46 ≤ tl) := hj
        obtain ⟨hm_49, e_51, he_47⟩ := hj
        obtain ⟨g_53, e_52, h_54⟩ := hm_49.obj e_40
        obtain ⟨z_55, z_56, z_57, z_58, rfl⟩ := smX6 h_54
        obtain ⟨f_60, e_59⟩ := hm_49.arrI e_41
        have hsm := hsm.tr (hm_49.mono (by decide))
        have hlp_6 := hlp_6.tr (hm_49.mono (by decide))
        have hlp_50 := hm_49
        have hl : lv_has ls 3 [(2, .int 1), (0, .ref tp)] := hl
        refine lv_iload_n hx hb dX6_advance_88 rfl (lv_at hl 0 rfl) ?_
        refine lv_if_eq (tgt := 134) hx hb dX6_advance_89 (by decide) (fun c_61 => absurd c_61 (by decide)) (fun c_61 => ?_)
        refine lv_aload_n hx hb dX6_advance_92 rfl (lv_at hl 1 rfl) ?_
        refine va_get (D := D) (ci := 6) (v := .int (nI e9_46)) (C := RX6) (T := TX6) (N := 5) hx hb hts hin6 hown hK hP ktp e_51 rfl 3 (by decide) (hts (.fieldLink RX6 19 "HoneyHouse$Tape" "end" "I") (List.mem_of_getElem? (i := 1) rfl)) (fun _ h9 => h9) rfl dX6_advance_93 ?_
        refine lv_aload_n hx hb dX6_advance_96 rfl (lv_at hl 1 rfl) ?_
        refine va_get (D := D) (ci := 6) (v := .int (nI tl)) (C := RX6) (T := TX6) (N := 5) hx hb hts hin6 hown hK hP ktp e_51 rfl 0 (by decide) (hts (.fieldLink RX6 15 "HoneyHouse$Tape" "length" "I") (List.mem_of_getElem? (i := 2) rfl)) (fun _ h9 => h9) rfl dX6_advance_97 ?_
        refine lv_icmp_ge (tgt := 134) hx hb dX6_advance_100 (by decide) (fun c_62 => ?_) (fun c_62 => ?_)
        · have d_63 := n_le (a := tl) (b := e9_46) (by omega) (by omega) c_62
          exact W.vret hx hb hr (fun t ht hW => ⟨⟨(), rfl, trivial, ws_48, tys, hsm, htx, by rw [ht]; exact hP, va_K.moved hW.alike hK, hD, ⟨k_29, a_2, e9_46, by omega, by omega, by omega, e_51⟩⟩, hS.F ht⟩) hS.2.2 dX6_advance_134
        have d_64 := n_nle (a := tl) (b := e9_46) (by omega) (by omega) c_62
        refine lv_aload_n hx hb dX6_advance_103 rfl (lv_at hl 1 rfl) ?_
        refine lv_aload_n hx hb dX6_advance_104 rfl (lv_at hl 1 rfl) ?_
        refine va_get (D := D) (ci := 6) (v := .int (nI e9_46)) (C := RX6) (T := TX6) (N := 5) hx hb hts hin6 hown hK hP ktp e_51 rfl 3 (by decide) (hts (.fieldLink RX6 19 "HoneyHouse$Tape" "end" "I") (List.mem_of_getElem? (i := 1) rfl)) (fun _ h9 => h9) rfl dX6_advance_105 ?_
        refine vp_callSi (W.runV (As := [.int (nI e9_46)]) (rest := []) ⟨hx, hb, hml, hown, hts⟩ (s_byteAt l D ws_48 tys tp ktp tl (nI k_29) (nI a_2) (nI e9_46) bb kbb cbb tbb f_60 (nI e9_46) e_51 e_59 ubb) (cwV 1 hts gX6_advance_X6_byteAt rfl rfl rfl (by decide +kernel) ⟨Nat.le_of_ble_eq_true rfl, Nat.le_of_ble_eq_true rfl⟩) ⟨fun a U g mk q => ⟨q.1, q.2.1, va_K.moved (u := U) (U := U.calling g mk a) (Vm.Alike.refl U.vm) q.2.2⟩, va_recv hK hP (ci := 6) (q0 := ktp) rfl e_51, fun U hU hW => ⟨rfl, by rw [hU]; exact hP, va_K.moved hW.alike hK⟩⟩ rfl rfl hl.1 rfl (lv_room (Nat.le_of_ble_eq_true rfl)) dX6_advance_108 ⟨Nat.le_of_ble_eq_true rfl, Nat.le_of_ble_eq_true rfl⟩) (fun r_65 k_66 => ?_)
        refine vp_callSi (W.runS (As := [.int r_65]) (rest := []) ⟨hx, hb, hml, hown, hts⟩ (s_kindOf l r_65) (va_cwS 1 hts gX6_advance_X6_kindOf rfl rfl rfl (by decide +kernel) ⟨Nat.le_of_ble_eq_true rfl, Nat.le_of_ble_eq_true rfl⟩) ⟨fun a U g mk q => q, fun U hU hW => ⟨rfl, trivial⟩⟩ rfl rfl hl.1 rfl (lv_room (Nat.le_of_ble_eq_true rfl)) dX6_advance_111 ⟨Nat.le_of_ble_eq_true rfl, Nat.le_of_ble_eq_true rfl⟩) (fun r_67 k_68 => ?_)
        obtain ⟨hk_69, k_70, hk_71, rfl⟩ := k_68
        refine lv_aload_n hx hb dX6_advance_114 rfl (lv_at hl 1 rfl) ?_
        refine va_get (D := D) (ci := 6) (v := .int (nI k_29)) (C := RX6) (T := TX6) (N := 5) hx hb hts hin6 hown hK hP ktp e_51 rfl 1 (by decide) (hts (.fieldLink RX6 35 "HoneyHouse$Tape" "kind" "I") (List.mem_of_getElem? (i := 4) rfl)) (fun _ h9 => h9) rfl dX6_advance_115 ?_
        refine lv_icmp_ne (tgt := 134) hx hb dX6_advance_118 (by decide) (fun c_72 => ?_) (fun c_72 => ?_)
        · have d_73 := n_ne (a := k_70) (b := k_29) (by omega) (by omega) c_72
          exact W.vret hx hb hr (fun t ht hW => ⟨⟨(), rfl, trivial, ws_48, tys, hsm, htx, by rw [ht]; exact hP, va_K.moved hW.alike hK, hD, ⟨k_29, a_2, e9_46, by omega, by omega, by omega, e_51⟩⟩, hS.F ht⟩) hS.2.2 dX6_advance_134
        have d_74 := n_eq (a := k_70) (b := k_29) (by omega) (by omega) c_72
        refine lv_aload_n hx hb dX6_advance_121 rfl (lv_at hl 1 rfl) ?_
        refine lv_dup hx hb dX6_advance_122 rfl ?_
        refine va_get (D := D) (ci := 6) (v := .int (nI e9_46)) (C := RX6) (T := TX6) (N := 5) hx hb hts hin6 hown hK hP ktp e_51 rfl 3 (by decide) (hts (.fieldLink RX6 19 "HoneyHouse$Tape" "end" "I") (List.mem_of_getElem? (i := 1) rfl)) (fun _ h9 => h9) rfl dX6_advance_123 ?_
        refine lv_iconst (v := 1) hx hb dX6_advance_126 (by decide) ?_
        refine lv_iadd hx hb dX6_advance_127 ?_
        refine tp_i (y := nI (e9_46 + 1)) (nI_add e9_46 1) ?_
        refine va_put (D := D) (ci := 6) (v := .int (nI (e9_46 + 1))) (ty := .int) (C := RX6) (T := TX6) (N := 5) hx hb hts hin6 tyX6 tyX6_ok nmX6 hown hK hP hD hS ktp e_51 rfl 3 (by decide) (hts (.fieldLink RX6 19 "HoneyHouse$Tape" "end" "I") (List.mem_of_getElem? (i := 1) rfl)) (fun _ h9 => h9) rfl (tyX6_ok 3 (by decide)) rfl rfl (Nat.le_of_ble_eq_true rfl) dX6_advance_128 (fun H locs hP hD hS => ?_)
        have hP : va_P D vwCl (ws_48.set ktp (tp, .inr (6, [.int (nI tl), .int (nI k_29), .int (nI a_2), .int (nI (e9_46 + 1)), .ref bb]))) H := hP
        have hD : va_D A (ws_48.set ktp (tp, .inr (6, [.int (nI tl), .int (nI k_29), .int (nI a_2), .int (nI (e9_46 + 1)), .ref bb]))) := hD
        have hm_76 : sm ρ [6] ws_48 (ws_48.set ktp (tp, .inr (6, [.int (nI tl), .int (nI k_29), .int (nI a_2), .int (nI (e9_46 + 1)), .ref bb]))) := sm.flds e_51 (smF.c (smV.rf _) (smF.c (smV.rf _) (smF.c (smV.rf _) (smF.c (smV.i _ _) (smF.c (smV.rf _) (rfl)))))) (List.mem_singleton.mpr rfl) w_ktp
        have e_77 : (ws_48.set ktp (tp, .inr (6, [.int (nI tl), .int (nI k_29), .int (nI a_2), .int (nI (e9_46 + 1)), .ref bb])))[ktp]? = some (tp, .inr (6, [.int (nI tl), .int (nI k_29), .int (nI a_2), .int (nI (e9_46 + 1)), .ref bb])) := wset_self e_51
        generalize ws_48.set ktp (tp, .inr (6, [.int (nI tl), .int (nI k_29), .int (nI a_2), .int (nI (e9_46 + 1)), .ref bb])) = ws_75 at hP hD hm_76 e_77
        obtain ⟨f_79, e_78⟩ := hm_76.arrI e_59
        have hsm := hsm.tr (hm_76.mono (by decide))
        have hlp_6 := hlp_6.tr (hm_76.mono (by decide))
        have hlp_50 := hlp_50.tr (hm_76.mono (by decide))
        refine lv_goto (tgt := 88) hx hb dX6_advance_131 (by decide) ?_
        exact ih_45 (e9_46 + 1) ws_75 _ _ ls (by show tl - (e9_46 + 1) < tl - e9_46; omega) ⟨hlp_50, e_77, (show a_2 ≤ (e9_46 + 1) ∧ (e9_46 + 1) ≤ tl from by omega)⟩ hP hD hS (lv_sub hl [0, 1] rfl)
      have d_80 := n_ne (a := k_29) (b := 1) (by omega) (by omega) c_43
      refine lv_aload_n hx hb dX6_advance_74 rfl (lv_at hl 1 rfl) ?_
      refine va_get (D := D) (ci := 6) (v := .int (nI k_29)) (C := RX6) (T := TX6) (N := 5) hx hb hts hin6 hown hK hP ktp e_40 rfl 1 (by decide) (hts (.fieldLink RX6 35 "HoneyHouse$Tape" "kind" "I") (List.mem_of_getElem? (i := 4) rfl)) (fun _ h9 => h9) rfl dX6_advance_75 ?_
      refine lv_iconst (v := 2) hx hb dX6_advance_78 (by decide) ?_
      refine lv_icmp_ne (tgt := 86) hx hb dX6_advance_79 (by decide) (fun c_81 => ?_) (fun c_81 => ?_)
      · have d_82 := n_ne (a := k_29) (b := 2) (by omega) (by omega) c_81
        refine lv_iconst (v := 0) hx hb dX6_advance_86 (by decide) ?_
        refine lv_istore_n (lv' := [(2, .int 0), (1, .int (nI a_2)), (0, .ref tp)]) hx hb dX6_advance_87 rfl hl (by decide) rfl (fun ls hl => ?_)
        refine lp_V (nL := 3) (σ := Nat) (lv := fun x9 => [(2, .int 0), (0, .ref tp)]) (μ := fun x9 => tl - x9) (J := fun x9 ws9 => sm ρ [6] ws_38 ws9 ∧ (ws9[ktp]? = some (tp, .inr (6, [.int (nI tl), .int (nI k_29), .int (nI a_2), .int (nI x9), .ref bb]))) ∧ (a_2 ≤ x9 ∧ x9 ≤ tl)) (fun x9 ws_86 H locs ls hj hP hD hS hl ih_83 => ?_) (a_2 + 1) ws_38 _ _ ls ⟨sm.rf _, e_40, (show a_2 ≤ (a_2 + 1) ∧ (a_2 + 1) ≤ tl from by omega)⟩ hP hD hS (lv_sub hl [0, 2] rfl)
        obtain ⟨e9_84, hx9⟩ : ∃ y9, y9 = x9 := ⟨_, rfl⟩
        subst hx9
        replace hj : sm ρ [6] ws_38 ws_86 ∧ (ws_86[ktp]? = some (tp, .inr (6, [.int (nI tl), .int (nI k_29), .int (nI a_2), .int (nI e9_84), .ref bb]))) ∧ (a_2 ≤ e9_84 ∧ e9_84 ≤ tl) := hj
        obtain ⟨hm_87, e_89, he_85⟩ := hj
        obtain ⟨g_91, e_90, h_92⟩ := hm_87.obj e_40
        obtain ⟨z_93, z_94, z_95, z_96, rfl⟩ := smX6 h_92
        obtain ⟨f_98, e_97⟩ := hm_87.arrI e_41
        have hsm := hsm.tr (hm_87.mono (by decide))
        have hlp_6 := hlp_6.tr (hm_87.mono (by decide))
        have hlp_88 := hm_87
        have hl : lv_has ls 3 [(2, .int 0), (0, .ref tp)] := hl
        refine lv_iload_n hx hb dX6_advance_88 rfl (lv_at hl 0 rfl) ?_
        refine lv_if_eq (tgt := 134) hx hb dX6_advance_89 (by decide) (fun c_99 => ?_) (fun c_99 => absurd (by decide) c_99)
        exact W.vret hx hb hr (fun t ht hW => ⟨⟨(), rfl, trivial, ws_86, tys, hsm, htx, by rw [ht]; exact hP, va_K.moved hW.alike hK, hD, ⟨k_29, a_2, e9_84, by omega, by omega, by omega, e_89⟩⟩, hS.F ht⟩) hS.2.2 dX6_advance_134
      have d_100 := n_eq (a := k_29) (b := 2) (by omega) (by omega) c_81
      refine lv_iconst (v := 1) hx hb dX6_advance_82 (by decide) ?_
      refine lv_goto (tgt := 87) hx hb dX6_advance_83 (by decide) ?_
      refine lv_istore_n (lv' := [(2, .int 1), (1, .int (nI a_2)), (0, .ref tp)]) hx hb dX6_advance_87 rfl hl (by decide) rfl (fun ls hl => ?_)
      refine lp_V (nL := 3) (σ := Nat) (lv := fun x9 => [(2, .int 1), (0, .ref tp)]) (μ := fun x9 => tl - x9) (J := fun x9 ws9 => sm ρ [6] ws_38 ws9 ∧ (ws9[ktp]? = some (tp, .inr (6, [.int (nI tl), .int (nI k_29), .int (nI a_2), .int (nI x9), .ref bb]))) ∧ (a_2 ≤ x9 ∧ x9 ≤ tl)) (fun x9 ws_104 H locs ls hj hP hD hS hl ih_101 => ?_) (a_2 + 1) ws_38 _ _ ls ⟨sm.rf _, e_40, (show a_2 ≤ (a_2 + 1) ∧ (a_2 + 1) ≤ tl from by omega)⟩ hP hD hS (lv_sub hl [0, 2] rfl)
      obtain ⟨e9_102, hx9⟩ : ∃ y9, y9 = x9 := ⟨_, rfl⟩
      subst hx9
      replace hj : sm ρ [6] ws_38 ws_104 ∧ (ws_104[ktp]? = some (tp, .inr (6, [.int (nI tl), .int (nI k_29), .int (nI a_2), .int (nI e9_102), .ref bb]))) ∧ (a_2 ≤ e9_102 ∧ e9_102 ≤ tl) := hj
      obtain ⟨hm_105, e_107, he_103⟩ := hj
      obtain ⟨g_109, e_108, h_110⟩ := hm_105.obj e_40
      obtain ⟨z_111, z_112, z_113, z_114, rfl⟩ := smX6 h_110
      obtain ⟨f_116, e_115⟩ := hm_105.arrI e_41
      have hsm := hsm.tr (hm_105.mono (by decide))
      have hlp_6 := hlp_6.tr (hm_105.mono (by decide))
      have hlp_106 := hm_105
      have hl : lv_has ls 3 [(2, .int 1), (0, .ref tp)] := hl
      refine lv_iload_n hx hb dX6_advance_88 rfl (lv_at hl 0 rfl) ?_
      refine lv_if_eq (tgt := 134) hx hb dX6_advance_89 (by decide) (fun c_117 => absurd c_117 (by decide)) (fun c_117 => ?_)
      refine lv_aload_n hx hb dX6_advance_92 rfl (lv_at hl 1 rfl) ?_
      refine va_get (D := D) (ci := 6) (v := .int (nI e9_102)) (C := RX6) (T := TX6) (N := 5) hx hb hts hin6 hown hK hP ktp e_107 rfl 3 (by decide) (hts (.fieldLink RX6 19 "HoneyHouse$Tape" "end" "I") (List.mem_of_getElem? (i := 1) rfl)) (fun _ h9 => h9) rfl dX6_advance_93 ?_
      refine lv_aload_n hx hb dX6_advance_96 rfl (lv_at hl 1 rfl) ?_
      refine va_get (D := D) (ci := 6) (v := .int (nI tl)) (C := RX6) (T := TX6) (N := 5) hx hb hts hin6 hown hK hP ktp e_107 rfl 0 (by decide) (hts (.fieldLink RX6 15 "HoneyHouse$Tape" "length" "I") (List.mem_of_getElem? (i := 2) rfl)) (fun _ h9 => h9) rfl dX6_advance_97 ?_
      refine lv_icmp_ge (tgt := 134) hx hb dX6_advance_100 (by decide) (fun c_118 => ?_) (fun c_118 => ?_)
      · have d_119 := n_le (a := tl) (b := e9_102) (by omega) (by omega) c_118
        exact W.vret hx hb hr (fun t ht hW => ⟨⟨(), rfl, trivial, ws_104, tys, hsm, htx, by rw [ht]; exact hP, va_K.moved hW.alike hK, hD, ⟨k_29, a_2, e9_102, by omega, by omega, by omega, e_107⟩⟩, hS.F ht⟩) hS.2.2 dX6_advance_134
      have d_120 := n_nle (a := tl) (b := e9_102) (by omega) (by omega) c_118
      refine lv_aload_n hx hb dX6_advance_103 rfl (lv_at hl 1 rfl) ?_
      refine lv_aload_n hx hb dX6_advance_104 rfl (lv_at hl 1 rfl) ?_
      refine va_get (D := D) (ci := 6) (v := .int (nI e9_102)) (C := RX6) (T := TX6) (N := 5) hx hb hts hin6 hown hK hP ktp e_107 rfl 3 (by decide) (hts (.fieldLink RX6 19 "HoneyHouse$Tape" "end" "I") (List.mem_of_getElem? (i := 1) rfl)) (fun _ h9 => h9) rfl dX6_advance_105 ?_
      refine vp_callSi (W.runV (As := [.int (nI e9_102)]) (rest := []) ⟨hx, hb, hml, hown, hts⟩ (s_byteAt l D ws_104 tys tp ktp tl (nI k_29) (nI a_2) (nI e9_102) bb kbb cbb tbb f_116 (nI e9_102) e_107 e_115 ubb) (cwV 1 hts gX6_advance_X6_byteAt rfl rfl rfl (by decide +kernel) ⟨Nat.le_of_ble_eq_true rfl, Nat.le_of_ble_eq_true rfl⟩) ⟨fun a U g mk q => ⟨q.1, q.2.1, va_K.moved (u := U) (U := U.calling g mk a) (Vm.Alike.refl U.vm) q.2.2⟩, va_recv hK hP (ci := 6) (q0 := ktp) rfl e_107, fun U hU hW => ⟨rfl, by rw [hU]; exact hP, va_K.moved hW.alike hK⟩⟩ rfl rfl hl.1 rfl (lv_room (Nat.le_of_ble_eq_true rfl)) dX6_advance_108 ⟨Nat.le_of_ble_eq_true rfl, Nat.le_of_ble_eq_true rfl⟩) (fun r_121 k_122 => ?_)
      refine vp_callSi (W.runS (As := [.int r_121]) (rest := []) ⟨hx, hb, hml, hown, hts⟩ (s_kindOf l r_121) (va_cwS 1 hts gX6_advance_X6_kindOf rfl rfl rfl (by decide +kernel) ⟨Nat.le_of_ble_eq_true rfl, Nat.le_of_ble_eq_true rfl⟩) ⟨fun a U g mk q => q, fun U hU hW => ⟨rfl, trivial⟩⟩ rfl rfl hl.1 rfl (lv_room (Nat.le_of_ble_eq_true rfl)) dX6_advance_111 ⟨Nat.le_of_ble_eq_true rfl, Nat.le_of_ble_eq_true rfl⟩) (fun r_123 k_124 => ?_)
      obtain ⟨hk_125, k_126, hk_127, rfl⟩ := k_124
      refine lv_aload_n hx hb dX6_advance_114 rfl (lv_at hl 1 rfl) ?_
      refine va_get (D := D) (ci := 6) (v := .int (nI k_29)) (C := RX6) (T := TX6) (N := 5) hx hb hts hin6 hown hK hP ktp e_107 rfl 1 (by decide) (hts (.fieldLink RX6 35 "HoneyHouse$Tape" "kind" "I") (List.mem_of_getElem? (i := 4) rfl)) (fun _ h9 => h9) rfl dX6_advance_115 ?_
      refine lv_icmp_ne (tgt := 134) hx hb dX6_advance_118 (by decide) (fun c_128 => ?_) (fun c_128 => ?_)
      · have d_129 := n_ne (a := k_126) (b := k_29) (by omega) (by omega) c_128
        exact W.vret hx hb hr (fun t ht hW => ⟨⟨(), rfl, trivial, ws_104, tys, hsm, htx, by rw [ht]; exact hP, va_K.moved hW.alike hK, hD, ⟨k_29, a_2, e9_102, by omega, by omega, by omega, e_107⟩⟩, hS.F ht⟩) hS.2.2 dX6_advance_134
      have d_130 := n_eq (a := k_126) (b := k_29) (by omega) (by omega) c_128
      refine lv_aload_n hx hb dX6_advance_121 rfl (lv_at hl 1 rfl) ?_
      refine lv_dup hx hb dX6_advance_122 rfl ?_
      refine va_get (D := D) (ci := 6) (v := .int (nI e9_102)) (C := RX6) (T := TX6) (N := 5) hx hb hts hin6 hown hK hP ktp e_107 rfl 3 (by decide) (hts (.fieldLink RX6 19 "HoneyHouse$Tape" "end" "I") (List.mem_of_getElem? (i := 1) rfl)) (fun _ h9 => h9) rfl dX6_advance_123 ?_
      refine lv_iconst (v := 1) hx hb dX6_advance_126 (by decide) ?_
      refine lv_iadd hx hb dX6_advance_127 ?_
      refine tp_i (y := nI (e9_102 + 1)) (nI_add e9_102 1) ?_
      refine va_put (D := D) (ci := 6) (v := .int (nI (e9_102 + 1))) (ty := .int) (C := RX6) (T := TX6) (N := 5) hx hb hts hin6 tyX6 tyX6_ok nmX6 hown hK hP hD hS ktp e_107 rfl 3 (by decide) (hts (.fieldLink RX6 19 "HoneyHouse$Tape" "end" "I") (List.mem_of_getElem? (i := 1) rfl)) (fun _ h9 => h9) rfl (tyX6_ok 3 (by decide)) rfl rfl (Nat.le_of_ble_eq_true rfl) dX6_advance_128 (fun H locs hP hD hS => ?_)
      have hP : va_P D vwCl (ws_104.set ktp (tp, .inr (6, [.int (nI tl), .int (nI k_29), .int (nI a_2), .int (nI (e9_102 + 1)), .ref bb]))) H := hP
      have hD : va_D A (ws_104.set ktp (tp, .inr (6, [.int (nI tl), .int (nI k_29), .int (nI a_2), .int (nI (e9_102 + 1)), .ref bb]))) := hD
      have hm_132 : sm ρ [6] ws_104 (ws_104.set ktp (tp, .inr (6, [.int (nI tl), .int (nI k_29), .int (nI a_2), .int (nI (e9_102 + 1)), .ref bb]))) := sm.flds e_107 (smF.c (smV.rf _) (smF.c (smV.rf _) (smF.c (smV.rf _) (smF.c (smV.i _ _) (smF.c (smV.rf _) (rfl)))))) (List.mem_singleton.mpr rfl) w_ktp
      have e_133 : (ws_104.set ktp (tp, .inr (6, [.int (nI tl), .int (nI k_29), .int (nI a_2), .int (nI (e9_102 + 1)), .ref bb])))[ktp]? = some (tp, .inr (6, [.int (nI tl), .int (nI k_29), .int (nI a_2), .int (nI (e9_102 + 1)), .ref bb])) := wset_self e_107
      generalize ws_104.set ktp (tp, .inr (6, [.int (nI tl), .int (nI k_29), .int (nI a_2), .int (nI (e9_102 + 1)), .ref bb])) = ws_131 at hP hD hm_132 e_133
      obtain ⟨f_135, e_134⟩ := hm_132.arrI e_115
      have hsm := hsm.tr (hm_132.mono (by decide))
      have hlp_6 := hlp_6.tr (hm_132.mono (by decide))
      have hlp_106 := hlp_106.tr (hm_132.mono (by decide))
      refine lv_goto (tgt := 88) hx hb dX6_advance_131 (by decide) ?_
      exact ih_101 (e9_102 + 1) ws_131 _ _ ls (by show tl - (e9_102 + 1) < tl - e9_102; omega) ⟨hlp_106, e_133, (show a_2 ≤ (e9_102 + 1) ∧ (e9_102 + 1) ≤ tl from by omega)⟩ hP hD hS (lv_sub hl [0, 1] rfl)
    have d_136 := n_eq (a := k_29) (b := 0) (by omega) (by omega) c_36
    refine lv_iload_n hx hb dX6_advance_56 rfl (lv_at hl 0 rfl) ?_
    refine lv_goto (tgt := 63) hx hb dX6_advance_57 (by decide) ?_
    refine va_put (D := D) (ci := 6) (v := .int (nI a_2)) (ty := .int) (C := RX6) (T := TX6) (N := 5) hx hb hts hin6 tyX6 tyX6_ok nmX6 hown hK hP hD hS ktp e_33 rfl 3 (by decide) (hts (.fieldLink RX6 19 "HoneyHouse$Tape" "end" "I") (List.mem_of_getElem? (i := 1) rfl)) (fun _ h9 => h9) rfl (tyX6_ok 3 (by decide)) rfl rfl (Nat.le_of_ble_eq_true rfl) dX6_advance_63 (fun H locs hP hD hS => ?_)
    have hP : va_P D vwCl (ws_31.set ktp (tp, .inr (6, [.int (nI tl), .int (nI k_29), .int (nI a_2), .int (nI a_2), .ref bb]))) H := hP
    have hD : va_D A (ws_31.set ktp (tp, .inr (6, [.int (nI tl), .int (nI k_29), .int (nI a_2), .int (nI a_2), .ref bb]))) := hD
    have hm_138 : sm ρ [6] ws_31 (ws_31.set ktp (tp, .inr (6, [.int (nI tl), .int (nI k_29), .int (nI a_2), .int (nI a_2), .ref bb]))) := sm.flds e_33 (smF.c (smV.rf _) (smF.c (smV.rf _) (smF.c (smV.rf _) (smF.c (smV.i _ _) (smF.c (smV.rf _) (rfl)))))) (List.mem_singleton.mpr rfl) w_ktp
    have e_139 : (ws_31.set ktp (tp, .inr (6, [.int (nI tl), .int (nI k_29), .int (nI a_2), .int (nI a_2), .ref bb])))[ktp]? = some (tp, .inr (6, [.int (nI tl), .int (nI k_29), .int (nI a_2), .int (nI a_2), .ref bb])) := wset_self e_33
    generalize ws_31.set ktp (tp, .inr (6, [.int (nI tl), .int (nI k_29), .int (nI a_2), .int (nI a_2), .ref bb])) = ws_137 at hP hD hm_138 e_139
    obtain ⟨f_141, e_140⟩ := hm_138.arrI e_34
    have hsm := hsm.tr (hm_138.mono (by decide))
    have hlp_6 := hlp_6.tr (hm_138.mono (by decide))
    refine lv_aload_n hx hb dX6_advance_66 rfl (lv_at hl 1 rfl) ?_
    refine va_get (D := D) (ci := 6) (v := .int (nI k_29)) (C := RX6) (T := TX6) (N := 5) hx hb hts hin6 hown hK hP ktp e_139 rfl 1 (by decide) (hts (.fieldLink RX6 35 "HoneyHouse$Tape" "kind" "I") (List.mem_of_getElem? (i := 4) rfl)) (fun _ h9 => h9) rfl dX6_advance_67 ?_
    refine lv_iconst (v := 1) hx hb dX6_advance_70 (by decide) ?_
    refine lv_icmp_eq (tgt := 82) hx hb dX6_advance_71 (by decide) (fun c_142 => ?_) (fun c_142 => ?_)
    · have d_143 := n_eq (a := k_29) (b := 1) (by omega) (by omega) c_142
      refine lv_iconst (v := 1) hx hb dX6_advance_82 (by decide) ?_
      refine lv_goto (tgt := 87) hx hb dX6_advance_83 (by decide) ?_
      refine lv_istore_n (lv' := [(2, .int 1), (1, .int (nI a_2)), (0, .ref tp)]) hx hb dX6_advance_87 rfl hl (by decide) rfl (fun ls hl => ?_)
      refine lp_V (nL := 3) (σ := Nat) (lv := fun x9 => [(2, .int 1), (0, .ref tp)]) (μ := fun x9 => tl - x9) (J := fun x9 ws9 => sm ρ [6] ws_137 ws9 ∧ (ws9[ktp]? = some (tp, .inr (6, [.int (nI tl), .int (nI k_29), .int (nI a_2), .int (nI x9), .ref bb]))) ∧ (a_2 ≤ x9 ∧ x9 ≤ tl)) (fun x9 ws_147 H locs ls hj hP hD hS hl ih_144 => ?_) a_2 ws_137 _ _ ls ⟨sm.rf _, e_139, (show a_2 ≤ a_2 ∧ a_2 ≤ tl from by omega)⟩ hP hD hS (lv_sub hl [0, 2] rfl)
      obtain ⟨e9_145, hx9⟩ : ∃ y9, y9 = x9 := ⟨_, rfl⟩
      subst hx9
      replace hj : sm ρ [6] ws_137 ws_147 ∧ (ws_147[ktp]? = some (tp, .inr (6, [.int (nI tl), .int (nI k_29), .int (nI a_2), .int (nI e9_145), .ref bb]))) ∧ (a_2 ≤ e9_145 ∧ e9_145 ≤ tl) := hj
      obtain ⟨hm_148, e_150, he_146⟩ := hj
      obtain ⟨g_152, e_151, h_153⟩ := hm_148.obj e_139
      obtain ⟨z_154, z_155, z_156, z_157, rfl⟩ := smX6 h_153
      obtain ⟨f_159, e_158⟩ := hm_148.arrI e_140
      have hsm := hsm.tr (hm_148.mono (by decide))
      have hlp_6 := hlp_6.tr (hm_148.mono (by decide))
      have hlp_149 := hm_148
      have hl : lv_has ls 3 [(2, .int 1), (0, .ref tp)] := hl
      refine lv_iload_n hx hb dX6_advance_88 rfl (lv_at hl 0 rfl) ?_
      refine lv_if_eq (tgt := 134) hx hb dX6_advance_89 (by decide) (fun c_160 => absurd c_160 (by decide)) (fun c_160 => ?_)
      refine lv_aload_n hx hb dX6_advance_92 rfl (lv_at hl 1 rfl) ?_
      refine va_get (D := D) (ci := 6) (v := .int (nI e9_145)) (C := RX6) (T := TX6) (N := 5) hx hb hts hin6 hown hK hP ktp e_150 rfl 3 (by decide) (hts (.fieldLink RX6 19 "HoneyHouse$Tape" "end" "I") (List.mem_of_getElem? (i := 1) rfl)) (fun _ h9 => h9) rfl dX6_advance_93 ?_
      refine lv_aload_n hx hb dX6_advance_96 rfl (lv_at hl 1 rfl) ?_
      refine va_get (D := D) (ci := 6) (v := .int (nI tl)) (C := RX6) (T := TX6) (N := 5) hx hb hts hin6 hown hK hP ktp e_150 rfl 0 (by decide) (hts (.fieldLink RX6 15 "HoneyHouse$Tape" "length" "I") (List.mem_of_getElem? (i := 2) rfl)) (fun _ h9 => h9) rfl dX6_advance_97 ?_
      refine lv_icmp_ge (tgt := 134) hx hb dX6_advance_100 (by decide) (fun c_161 => ?_) (fun c_161 => ?_)
      · have d_162 := n_le (a := tl) (b := e9_145) (by omega) (by omega) c_161
        exact W.vret hx hb hr (fun t ht hW => ⟨⟨(), rfl, trivial, ws_147, tys, hsm, htx, by rw [ht]; exact hP, va_K.moved hW.alike hK, hD, ⟨k_29, a_2, e9_145, by omega, by omega, by omega, e_150⟩⟩, hS.F ht⟩) hS.2.2 dX6_advance_134
      have d_163 := n_nle (a := tl) (b := e9_145) (by omega) (by omega) c_161
      refine lv_aload_n hx hb dX6_advance_103 rfl (lv_at hl 1 rfl) ?_
      refine lv_aload_n hx hb dX6_advance_104 rfl (lv_at hl 1 rfl) ?_
      refine va_get (D := D) (ci := 6) (v := .int (nI e9_145)) (C := RX6) (T := TX6) (N := 5) hx hb hts hin6 hown hK hP ktp e_150 rfl 3 (by decide) (hts (.fieldLink RX6 19 "HoneyHouse$Tape" "end" "I") (List.mem_of_getElem? (i := 1) rfl)) (fun _ h9 => h9) rfl dX6_advance_105 ?_
      refine vp_callSi (W.runV (As := [.int (nI e9_145)]) (rest := []) ⟨hx, hb, hml, hown, hts⟩ (s_byteAt l D ws_147 tys tp ktp tl (nI k_29) (nI a_2) (nI e9_145) bb kbb cbb tbb f_159 (nI e9_145) e_150 e_158 ubb) (cwV 1 hts gX6_advance_X6_byteAt rfl rfl rfl (by decide +kernel) ⟨Nat.le_of_ble_eq_true rfl, Nat.le_of_ble_eq_true rfl⟩) ⟨fun a U g mk q => ⟨q.1, q.2.1, va_K.moved (u := U) (U := U.calling g mk a) (Vm.Alike.refl U.vm) q.2.2⟩, va_recv hK hP (ci := 6) (q0 := ktp) rfl e_150, fun U hU hW => ⟨rfl, by rw [hU]; exact hP, va_K.moved hW.alike hK⟩⟩ rfl rfl hl.1 rfl (lv_room (Nat.le_of_ble_eq_true rfl)) dX6_advance_108 ⟨Nat.le_of_ble_eq_true rfl, Nat.le_of_ble_eq_true rfl⟩) (fun r_164 k_165 => ?_)
      refine vp_callSi (W.runS (As := [.int r_164]) (rest := []) ⟨hx, hb, hml, hown, hts⟩ (s_kindOf l r_164) (va_cwS 1 hts gX6_advance_X6_kindOf rfl rfl rfl (by decide +kernel) ⟨Nat.le_of_ble_eq_true rfl, Nat.le_of_ble_eq_true rfl⟩) ⟨fun a U g mk q => q, fun U hU hW => ⟨rfl, trivial⟩⟩ rfl rfl hl.1 rfl (lv_room (Nat.le_of_ble_eq_true rfl)) dX6_advance_111 ⟨Nat.le_of_ble_eq_true rfl, Nat.le_of_ble_eq_true rfl⟩) (fun r_166 k_167 => ?_)
      obtain ⟨hk_168, k_169, hk_170, rfl⟩ := k_167
      refine lv_aload_n hx hb dX6_advance_114 rfl (lv_at hl 1 rfl) ?_
      refine va_get (D := D) (ci := 6) (v := .int (nI k_29)) (C := RX6) (T := TX6) (N := 5) hx hb hts hin6 hown hK hP ktp e_150 rfl 1 (by decide) (hts (.fieldLink RX6 35 "HoneyHouse$Tape" "kind" "I") (List.mem_of_getElem? (i := 4) rfl)) (fun _ h9 => h9) rfl dX6_advance_115 ?_
      refine lv_icmp_ne (tgt := 134) hx hb dX6_advance_118 (by decide) (fun c_171 => ?_) (fun c_171 => ?_)
      · have d_172 := n_ne (a := k_169) (b := k_29) (by omega) (by omega) c_171
        exact W.vret hx hb hr (fun t ht hW => ⟨⟨(), rfl, trivial, ws_147, tys, hsm, htx, by rw [ht]; exact hP, va_K.moved hW.alike hK, hD, ⟨k_29, a_2, e9_145, by omega, by omega, by omega, e_150⟩⟩, hS.F ht⟩) hS.2.2 dX6_advance_134
      have d_173 := n_eq (a := k_169) (b := k_29) (by omega) (by omega) c_171
      refine lv_aload_n hx hb dX6_advance_121 rfl (lv_at hl 1 rfl) ?_
      refine lv_dup hx hb dX6_advance_122 rfl ?_
      refine va_get (D := D) (ci := 6) (v := .int (nI e9_145)) (C := RX6) (T := TX6) (N := 5) hx hb hts hin6 hown hK hP ktp e_150 rfl 3 (by decide) (hts (.fieldLink RX6 19 "HoneyHouse$Tape" "end" "I") (List.mem_of_getElem? (i := 1) rfl)) (fun _ h9 => h9) rfl dX6_advance_123 ?_
      refine lv_iconst (v := 1) hx hb dX6_advance_126 (by decide) ?_
      refine lv_iadd hx hb dX6_advance_127 ?_
      refine tp_i (y := nI (e9_145 + 1)) (nI_add e9_145 1) ?_
      refine va_put (D := D) (ci := 6) (v := .int (nI (e9_145 + 1))) (ty := .int) (C := RX6) (T := TX6) (N := 5) hx hb hts hin6 tyX6 tyX6_ok nmX6 hown hK hP hD hS ktp e_150 rfl 3 (by decide) (hts (.fieldLink RX6 19 "HoneyHouse$Tape" "end" "I") (List.mem_of_getElem? (i := 1) rfl)) (fun _ h9 => h9) rfl (tyX6_ok 3 (by decide)) rfl rfl (Nat.le_of_ble_eq_true rfl) dX6_advance_128 (fun H locs hP hD hS => ?_)
      have hP : va_P D vwCl (ws_147.set ktp (tp, .inr (6, [.int (nI tl), .int (nI k_29), .int (nI a_2), .int (nI (e9_145 + 1)), .ref bb]))) H := hP
      have hD : va_D A (ws_147.set ktp (tp, .inr (6, [.int (nI tl), .int (nI k_29), .int (nI a_2), .int (nI (e9_145 + 1)), .ref bb]))) := hD
      have hm_175 : sm ρ [6] ws_147 (ws_147.set ktp (tp, .inr (6, [.int (nI tl), .int (nI k_29), .int (nI a_2), .int (nI (e9_145 + 1)), .ref bb]))) := sm.flds e_150 (smF.c (smV.rf _) (smF.c (smV.rf _) (smF.c (smV.rf _) (smF.c (smV.i _ _) (smF.c (smV.rf _) (rfl)))))) (List.mem_singleton.mpr rfl) w_ktp
      have e_176 : (ws_147.set ktp (tp, .inr (6, [.int (nI tl), .int (nI k_29), .int (nI a_2), .int (nI (e9_145 + 1)), .ref bb])))[ktp]? = some (tp, .inr (6, [.int (nI tl), .int (nI k_29), .int (nI a_2), .int (nI (e9_145 + 1)), .ref bb])) := wset_self e_150
      generalize ws_147.set ktp (tp, .inr (6, [.int (nI tl), .int (nI k_29), .int (nI a_2), .int (nI (e9_145 + 1)), .ref bb])) = ws_174 at hP hD hm_175 e_176
      obtain ⟨f_178, e_177⟩ := hm_175.arrI e_158
      have hsm := hsm.tr (hm_175.mono (by decide))
      have hlp_6 := hlp_6.tr (hm_175.mono (by decide))
      have hlp_149 := hlp_149.tr (hm_175.mono (by decide))
      refine lv_goto (tgt := 88) hx hb dX6_advance_131 (by decide) ?_
      exact ih_144 (e9_145 + 1) ws_174 _ _ ls (by show tl - (e9_145 + 1) < tl - e9_145; omega) ⟨hlp_149, e_176, (show a_2 ≤ (e9_145 + 1) ∧ (e9_145 + 1) ≤ tl from by omega)⟩ hP hD hS (lv_sub hl [0, 1] rfl)
    have d_179 := n_ne (a := k_29) (b := 1) (by omega) (by omega) c_142
    refine lv_aload_n hx hb dX6_advance_74 rfl (lv_at hl 1 rfl) ?_
    refine va_get (D := D) (ci := 6) (v := .int (nI k_29)) (C := RX6) (T := TX6) (N := 5) hx hb hts hin6 hown hK hP ktp e_139 rfl 1 (by decide) (hts (.fieldLink RX6 35 "HoneyHouse$Tape" "kind" "I") (List.mem_of_getElem? (i := 4) rfl)) (fun _ h9 => h9) rfl dX6_advance_75 ?_
    refine lv_iconst (v := 2) hx hb dX6_advance_78 (by decide) ?_
    refine lv_icmp_ne (tgt := 86) hx hb dX6_advance_79 (by decide) (fun c_180 => ?_) (fun c_180 => ?_)
    · have d_181 := n_ne (a := k_29) (b := 2) (by omega) (by omega) c_180
      refine lv_iconst (v := 0) hx hb dX6_advance_86 (by decide) ?_
      refine lv_istore_n (lv' := [(2, .int 0), (1, .int (nI a_2)), (0, .ref tp)]) hx hb dX6_advance_87 rfl hl (by decide) rfl (fun ls hl => ?_)
      refine lp_V (nL := 3) (σ := Nat) (lv := fun x9 => [(2, .int 0), (0, .ref tp)]) (μ := fun x9 => tl - x9) (J := fun x9 ws9 => sm ρ [6] ws_137 ws9 ∧ (ws9[ktp]? = some (tp, .inr (6, [.int (nI tl), .int (nI k_29), .int (nI a_2), .int (nI x9), .ref bb]))) ∧ (a_2 ≤ x9 ∧ x9 ≤ tl)) (fun x9 ws_185 H locs ls hj hP hD hS hl ih_182 => ?_) a_2 ws_137 _ _ ls ⟨sm.rf _, e_139, (show a_2 ≤ a_2 ∧ a_2 ≤ tl from by omega)⟩ hP hD hS (lv_sub hl [0, 2] rfl)
      obtain ⟨e9_183, hx9⟩ : ∃ y9, y9 = x9 := ⟨_, rfl⟩
      subst hx9
      replace hj : sm ρ [6] ws_137 ws_185 ∧ (ws_185[ktp]? = some (tp, .inr (6, [.int (nI tl), .int (nI k_29), .int (nI a_2), .int (nI e9_183), .ref bb]))) ∧ (a_2 ≤ e9_183 ∧ e9_183 ≤ tl) := hj
      obtain ⟨hm_186, e_188, he_184⟩ := hj
      obtain ⟨g_190, e_189, h_191⟩ := hm_186.obj e_139
      obtain ⟨z_192, z_193, z_194, z_195, rfl⟩ := smX6 h_191
      obtain ⟨f_197, e_196⟩ := hm_186.arrI e_140
      have hsm := hsm.tr (hm_186.mono (by decide))
      have hlp_6 := hlp_6.tr (hm_186.mono (by decide))
      have hlp_187 := hm_186
      have hl : lv_has ls 3 [(2, .int 0), (0, .ref tp)] := hl
      refine lv_iload_n hx hb dX6_advance_88 rfl (lv_at hl 0 rfl) ?_
      refine lv_if_eq (tgt := 134) hx hb dX6_advance_89 (by decide) (fun c_198 => ?_) (fun c_198 => absurd (by decide) c_198)
      exact W.vret hx hb hr (fun t ht hW => ⟨⟨(), rfl, trivial, ws_185, tys, hsm, htx, by rw [ht]; exact hP, va_K.moved hW.alike hK, hD, ⟨k_29, a_2, e9_183, by omega, by omega, by omega, e_188⟩⟩, hS.F ht⟩) hS.2.2 dX6_advance_134
    have d_199 := n_eq (a := k_29) (b := 2) (by omega) (by omega) c_180
    refine lv_iconst (v := 1) hx hb dX6_advance_82 (by decide) ?_
    refine lv_goto (tgt := 87) hx hb dX6_advance_83 (by decide) ?_
    refine lv_istore_n (lv' := [(2, .int 1), (1, .int (nI a_2)), (0, .ref tp)]) hx hb dX6_advance_87 rfl hl (by decide) rfl (fun ls hl => ?_)
    refine lp_V (nL := 3) (σ := Nat) (lv := fun x9 => [(2, .int 1), (0, .ref tp)]) (μ := fun x9 => tl - x9) (J := fun x9 ws9 => sm ρ [6] ws_137 ws9 ∧ (ws9[ktp]? = some (tp, .inr (6, [.int (nI tl), .int (nI k_29), .int (nI a_2), .int (nI x9), .ref bb]))) ∧ (a_2 ≤ x9 ∧ x9 ≤ tl)) (fun x9 ws_203 H locs ls hj hP hD hS hl ih_200 => ?_) a_2 ws_137 _ _ ls ⟨sm.rf _, e_139, (show a_2 ≤ a_2 ∧ a_2 ≤ tl from by omega)⟩ hP hD hS (lv_sub hl [0, 2] rfl)
    obtain ⟨e9_201, hx9⟩ : ∃ y9, y9 = x9 := ⟨_, rfl⟩
    subst hx9
    replace hj : sm ρ [6] ws_137 ws_203 ∧ (ws_203[ktp]? = some (tp, .inr (6, [.int (nI tl), .int (nI k_29), .int (nI a_2), .int (nI e9_201), .ref bb]))) ∧ (a_2 ≤ e9_201 ∧ e9_201 ≤ tl) := hj
    obtain ⟨hm_204, e_206, he_202⟩ := hj
    obtain ⟨g_208, e_207, h_209⟩ := hm_204.obj e_139
    obtain ⟨z_210, z_211, z_212, z_213, rfl⟩ := smX6 h_209
    obtain ⟨f_215, e_214⟩ := hm_204.arrI e_140
    have hsm := hsm.tr (hm_204.mono (by decide))
    have hlp_6 := hlp_6.tr (hm_204.mono (by decide))
    have hlp_205 := hm_204
    have hl : lv_has ls 3 [(2, .int 1), (0, .ref tp)] := hl
    refine lv_iload_n hx hb dX6_advance_88 rfl (lv_at hl 0 rfl) ?_
    refine lv_if_eq (tgt := 134) hx hb dX6_advance_89 (by decide) (fun c_216 => absurd c_216 (by decide)) (fun c_216 => ?_)
    refine lv_aload_n hx hb dX6_advance_92 rfl (lv_at hl 1 rfl) ?_
    refine va_get (D := D) (ci := 6) (v := .int (nI e9_201)) (C := RX6) (T := TX6) (N := 5) hx hb hts hin6 hown hK hP ktp e_206 rfl 3 (by decide) (hts (.fieldLink RX6 19 "HoneyHouse$Tape" "end" "I") (List.mem_of_getElem? (i := 1) rfl)) (fun _ h9 => h9) rfl dX6_advance_93 ?_
    refine lv_aload_n hx hb dX6_advance_96 rfl (lv_at hl 1 rfl) ?_
    refine va_get (D := D) (ci := 6) (v := .int (nI tl)) (C := RX6) (T := TX6) (N := 5) hx hb hts hin6 hown hK hP ktp e_206 rfl 0 (by decide) (hts (.fieldLink RX6 15 "HoneyHouse$Tape" "length" "I") (List.mem_of_getElem? (i := 2) rfl)) (fun _ h9 => h9) rfl dX6_advance_97 ?_
    refine lv_icmp_ge (tgt := 134) hx hb dX6_advance_100 (by decide) (fun c_217 => ?_) (fun c_217 => ?_)
    · have d_218 := n_le (a := tl) (b := e9_201) (by omega) (by omega) c_217
      exact W.vret hx hb hr (fun t ht hW => ⟨⟨(), rfl, trivial, ws_203, tys, hsm, htx, by rw [ht]; exact hP, va_K.moved hW.alike hK, hD, ⟨k_29, a_2, e9_201, by omega, by omega, by omega, e_206⟩⟩, hS.F ht⟩) hS.2.2 dX6_advance_134
    have d_219 := n_nle (a := tl) (b := e9_201) (by omega) (by omega) c_217
    refine lv_aload_n hx hb dX6_advance_103 rfl (lv_at hl 1 rfl) ?_
    refine lv_aload_n hx hb dX6_advance_104 rfl (lv_at hl 1 rfl) ?_
    refine va_get (D := D) (ci := 6) (v := .int (nI e9_201)) (C := RX6) (T := TX6) (N := 5) hx hb hts hin6 hown hK hP ktp e_206 rfl 3 (by decide) (hts (.fieldLink RX6 19 "HoneyHouse$Tape" "end" "I") (List.mem_of_getElem? (i := 1) rfl)) (fun _ h9 => h9) rfl dX6_advance_105 ?_
    refine vp_callSi (W.runV (As := [.int (nI e9_201)]) (rest := []) ⟨hx, hb, hml, hown, hts⟩ (s_byteAt l D ws_203 tys tp ktp tl (nI k_29) (nI a_2) (nI e9_201) bb kbb cbb tbb f_215 (nI e9_201) e_206 e_214 ubb) (cwV 1 hts gX6_advance_X6_byteAt rfl rfl rfl (by decide +kernel) ⟨Nat.le_of_ble_eq_true rfl, Nat.le_of_ble_eq_true rfl⟩) ⟨fun a U g mk q => ⟨q.1, q.2.1, va_K.moved (u := U) (U := U.calling g mk a) (Vm.Alike.refl U.vm) q.2.2⟩, va_recv hK hP (ci := 6) (q0 := ktp) rfl e_206, fun U hU hW => ⟨rfl, by rw [hU]; exact hP, va_K.moved hW.alike hK⟩⟩ rfl rfl hl.1 rfl (lv_room (Nat.le_of_ble_eq_true rfl)) dX6_advance_108 ⟨Nat.le_of_ble_eq_true rfl, Nat.le_of_ble_eq_true rfl⟩) (fun r_220 k_221 => ?_)
    refine vp_callSi (W.runS (As := [.int r_220]) (rest := []) ⟨hx, hb, hml, hown, hts⟩ (s_kindOf l r_220) (va_cwS 1 hts gX6_advance_X6_kindOf rfl rfl rfl (by decide +kernel) ⟨Nat.le_of_ble_eq_true rfl, Nat.le_of_ble_eq_true rfl⟩) ⟨fun a U g mk q => q, fun U hU hW => ⟨rfl, trivial⟩⟩ rfl rfl hl.1 rfl (lv_room (Nat.le_of_ble_eq_true rfl)) dX6_advance_111 ⟨Nat.le_of_ble_eq_true rfl, Nat.le_of_ble_eq_true rfl⟩) (fun r_222 k_223 => ?_)
    obtain ⟨hk_224, k_225, hk_226, rfl⟩ := k_223
    refine lv_aload_n hx hb dX6_advance_114 rfl (lv_at hl 1 rfl) ?_
    refine va_get (D := D) (ci := 6) (v := .int (nI k_29)) (C := RX6) (T := TX6) (N := 5) hx hb hts hin6 hown hK hP ktp e_206 rfl 1 (by decide) (hts (.fieldLink RX6 35 "HoneyHouse$Tape" "kind" "I") (List.mem_of_getElem? (i := 4) rfl)) (fun _ h9 => h9) rfl dX6_advance_115 ?_
    refine lv_icmp_ne (tgt := 134) hx hb dX6_advance_118 (by decide) (fun c_227 => ?_) (fun c_227 => ?_)
    · have d_228 := n_ne (a := k_225) (b := k_29) (by omega) (by omega) c_227
      exact W.vret hx hb hr (fun t ht hW => ⟨⟨(), rfl, trivial, ws_203, tys, hsm, htx, by rw [ht]; exact hP, va_K.moved hW.alike hK, hD, ⟨k_29, a_2, e9_201, by omega, by omega, by omega, e_206⟩⟩, hS.F ht⟩) hS.2.2 dX6_advance_134
    have d_229 := n_eq (a := k_225) (b := k_29) (by omega) (by omega) c_227
    refine lv_aload_n hx hb dX6_advance_121 rfl (lv_at hl 1 rfl) ?_
    refine lv_dup hx hb dX6_advance_122 rfl ?_
    refine va_get (D := D) (ci := 6) (v := .int (nI e9_201)) (C := RX6) (T := TX6) (N := 5) hx hb hts hin6 hown hK hP ktp e_206 rfl 3 (by decide) (hts (.fieldLink RX6 19 "HoneyHouse$Tape" "end" "I") (List.mem_of_getElem? (i := 1) rfl)) (fun _ h9 => h9) rfl dX6_advance_123 ?_
    refine lv_iconst (v := 1) hx hb dX6_advance_126 (by decide) ?_
    refine lv_iadd hx hb dX6_advance_127 ?_
    refine tp_i (y := nI (e9_201 + 1)) (nI_add e9_201 1) ?_
    refine va_put (D := D) (ci := 6) (v := .int (nI (e9_201 + 1))) (ty := .int) (C := RX6) (T := TX6) (N := 5) hx hb hts hin6 tyX6 tyX6_ok nmX6 hown hK hP hD hS ktp e_206 rfl 3 (by decide) (hts (.fieldLink RX6 19 "HoneyHouse$Tape" "end" "I") (List.mem_of_getElem? (i := 1) rfl)) (fun _ h9 => h9) rfl (tyX6_ok 3 (by decide)) rfl rfl (Nat.le_of_ble_eq_true rfl) dX6_advance_128 (fun H locs hP hD hS => ?_)
    have hP : va_P D vwCl (ws_203.set ktp (tp, .inr (6, [.int (nI tl), .int (nI k_29), .int (nI a_2), .int (nI (e9_201 + 1)), .ref bb]))) H := hP
    have hD : va_D A (ws_203.set ktp (tp, .inr (6, [.int (nI tl), .int (nI k_29), .int (nI a_2), .int (nI (e9_201 + 1)), .ref bb]))) := hD
    have hm_231 : sm ρ [6] ws_203 (ws_203.set ktp (tp, .inr (6, [.int (nI tl), .int (nI k_29), .int (nI a_2), .int (nI (e9_201 + 1)), .ref bb]))) := sm.flds e_206 (smF.c (smV.rf _) (smF.c (smV.rf _) (smF.c (smV.rf _) (smF.c (smV.i _ _) (smF.c (smV.rf _) (rfl)))))) (List.mem_singleton.mpr rfl) w_ktp
    have e_232 : (ws_203.set ktp (tp, .inr (6, [.int (nI tl), .int (nI k_29), .int (nI a_2), .int (nI (e9_201 + 1)), .ref bb])))[ktp]? = some (tp, .inr (6, [.int (nI tl), .int (nI k_29), .int (nI a_2), .int (nI (e9_201 + 1)), .ref bb])) := wset_self e_206
    generalize ws_203.set ktp (tp, .inr (6, [.int (nI tl), .int (nI k_29), .int (nI a_2), .int (nI (e9_201 + 1)), .ref bb])) = ws_230 at hP hD hm_231 e_232
    obtain ⟨f_234, e_233⟩ := hm_231.arrI e_214
    have hsm := hsm.tr (hm_231.mono (by decide))
    have hlp_6 := hlp_6.tr (hm_231.mono (by decide))
    have hlp_205 := hlp_205.tr (hm_231.mono (by decide))
    refine lv_goto (tgt := 88) hx hb dX6_advance_131 (by decide) ?_
    exact ih_200 (e9_201 + 1) ws_230 _ _ ls (by show tl - (e9_201 + 1) < tl - e9_201; omega) ⟨hlp_205, e_232, (show a_2 ≤ (e9_201 + 1) ∧ (e9_201 + 1) ≤ tl from by omega)⟩ hP hD hS (lv_sub hl [0, 1] rfl)
  have d_235 := n_nle (a := tl) (b := a_2) (by omega) (by omega) c_17
  refine lv_aload_n hx hb dX6_advance_13 rfl (lv_at hl 1 rfl) ?_
  refine lv_iload_n hx hb dX6_advance_14 rfl (lv_at hl 0 rfl) ?_
  refine vp_callSi (W.runV (As := [.int (nI a_2)]) (rest := []) ⟨hx, hb, hml, hown, hts⟩ (s_byteAt l D ws_4 tys tp ktp tl x1 x2 (nI te) bb kbb cbb tbb f_16 (nI a_2) e_7 e_15 ubb) (cwV 1 hts gX6_advance_X6_byteAt rfl rfl rfl (by decide +kernel) ⟨Nat.le_of_ble_eq_true rfl, Nat.le_of_ble_eq_true rfl⟩) ⟨fun a U g mk q => ⟨q.1, q.2.1, va_K.moved (u := U) (U := U.calling g mk a) (Vm.Alike.refl U.vm) q.2.2⟩, va_recv hK hP (ci := 6) (q0 := ktp) rfl e_7, fun U hU hW => ⟨rfl, by rw [hU]; exact hP, va_K.moved hW.alike hK⟩⟩ rfl rfl hl.1 rfl (lv_room (Nat.le_of_ble_eq_true rfl)) dX6_advance_15 ⟨Nat.le_of_ble_eq_true rfl, Nat.le_of_ble_eq_true rfl⟩) (fun r_236 k_237 => ?_)
  refine vp_callSi (W.runS (As := [.int r_236]) (rest := []) ⟨hx, hb, hml, hown, hts⟩ (s_kindOf l r_236) (va_cwS 1 hts gX6_advance_X6_kindOf rfl rfl rfl (by decide +kernel) ⟨Nat.le_of_ble_eq_true rfl, Nat.le_of_ble_eq_true rfl⟩) ⟨fun a U g mk q => q, fun U hU hW => ⟨rfl, trivial⟩⟩ rfl rfl hl.1 rfl (lv_room (Nat.le_of_ble_eq_true rfl)) dX6_advance_18 ⟨Nat.le_of_ble_eq_true rfl, Nat.le_of_ble_eq_true rfl⟩) (fun r_238 k_239 => ?_)
  obtain ⟨hk_240, k_241, hk_242, rfl⟩ := k_239
  refine lv_iconst (v := 3) hx hb dX6_advance_21 (by decide) ?_
  refine lv_icmp_ne (tgt := 31) hx hb dX6_advance_22 (by decide) (fun c_243 => ?_) (fun c_243 => ?_)
  · have d_244 := n_ne (a := k_241) (b := 3) (by omega) (by omega) c_243
    refine lv_aload_n hx hb dX6_advance_31 rfl (lv_at hl 1 rfl) ?_
    refine lv_iload_n hx hb dX6_advance_32 rfl (lv_at hl 0 rfl) ?_
    refine va_put (D := D) (ci := 6) (v := .int (nI a_2)) (ty := .int) (C := RX6) (T := TX6) (N := 5) hx hb hts hin6 tyX6 tyX6_ok nmX6 hown hK hP hD hS ktp e_7 rfl 2 (by decide) (hts (.fieldLink RX6 32 "HoneyHouse$Tape" "start" "I") (List.mem_of_getElem? (i := 3) rfl)) (fun _ h9 => h9) rfl (tyX6_ok 2 (by decide)) rfl rfl (Nat.le_of_ble_eq_true rfl) dX6_advance_33 (fun H locs hP hD hS => ?_)
    have hP : va_P D vwCl (ws_4.set ktp (tp, .inr (6, [.int (nI tl), .int x1, .int (nI a_2), .int (nI te), .ref bb]))) H := hP
    have hD : va_D A (ws_4.set ktp (tp, .inr (6, [.int (nI tl), .int x1, .int (nI a_2), .int (nI te), .ref bb]))) := hD
    have hm_246 : sm ρ [6] ws_4 (ws_4.set ktp (tp, .inr (6, [.int (nI tl), .int x1, .int (nI a_2), .int (nI te), .ref bb]))) := sm.flds e_7 (smF.c (smV.rf _) (smF.c (smV.rf _) (smF.c (smV.i _ _) (smF.c (smV.rf _) (smF.c (smV.rf _) (rfl)))))) (List.mem_singleton.mpr rfl) w_ktp
    have e_247 : (ws_4.set ktp (tp, .inr (6, [.int (nI tl), .int x1, .int (nI a_2), .int (nI te), .ref bb])))[ktp]? = some (tp, .inr (6, [.int (nI tl), .int x1, .int (nI a_2), .int (nI te), .ref bb])) := wset_self e_7
    generalize ws_4.set ktp (tp, .inr (6, [.int (nI tl), .int x1, .int (nI a_2), .int (nI te), .ref bb])) = ws_245 at hP hD hm_246 e_247
    obtain ⟨f_249, e_248⟩ := hm_246.arrI e_15
    have hsm := hsm.tr (hm_246.mono (by decide))
    have hlp_6 := hlp_6.tr (hm_246.mono (by decide))
    refine lv_aload_n hx hb dX6_advance_36 rfl (lv_at hl 1 rfl) ?_
    refine lv_aload_n hx hb dX6_advance_37 rfl (lv_at hl 1 rfl) ?_
    refine lv_iload_n hx hb dX6_advance_38 rfl (lv_at hl 0 rfl) ?_
    refine vp_callSi (W.runV (As := [.int (nI a_2)]) (rest := [.ref tp]) ⟨hx, hb, hml, hown, hts⟩ (s_byteAt l D ws_245 tys tp ktp tl x1 (nI a_2) (nI te) bb kbb cbb tbb f_249 (nI a_2) e_247 e_248 ubb) (cwV 1 hts gX6_advance_X6_byteAt rfl rfl rfl (by decide +kernel) ⟨Nat.le_of_ble_eq_true rfl, Nat.le_of_ble_eq_true rfl⟩) ⟨fun a U g mk q => ⟨q.1, q.2.1, va_K.moved (u := U) (U := U.calling g mk a) (Vm.Alike.refl U.vm) q.2.2⟩, va_recv hK hP (ci := 6) (q0 := ktp) rfl e_247, fun U hU hW => ⟨rfl, by rw [hU]; exact hP, va_K.moved hW.alike hK⟩⟩ rfl rfl hl.1 rfl (lv_room (Nat.le_of_ble_eq_true rfl)) dX6_advance_39 ⟨Nat.le_of_ble_eq_true rfl, Nat.le_of_ble_eq_true rfl⟩) (fun r_250 k_251 => ?_)
    refine vp_callSi (W.runS (As := [.int r_250]) (rest := [.ref tp]) ⟨hx, hb, hml, hown, hts⟩ (s_kindOf l r_250) (va_cwS 1 hts gX6_advance_X6_kindOf rfl rfl rfl (by decide +kernel) ⟨Nat.le_of_ble_eq_true rfl, Nat.le_of_ble_eq_true rfl⟩) ⟨fun a U g mk q => q, fun U hU hW => ⟨rfl, trivial⟩⟩ rfl rfl hl.1 rfl (lv_room (Nat.le_of_ble_eq_true rfl)) dX6_advance_42 ⟨Nat.le_of_ble_eq_true rfl, Nat.le_of_ble_eq_true rfl⟩) (fun r_252 k_253 => ?_)
    obtain ⟨hk_254, k_255, hk_256, rfl⟩ := k_253
    refine va_put (D := D) (ci := 6) (v := .int (nI k_255)) (ty := .int) (C := RX6) (T := TX6) (N := 5) hx hb hts hin6 tyX6 tyX6_ok nmX6 hown hK hP hD hS ktp e_247 rfl 1 (by decide) (hts (.fieldLink RX6 35 "HoneyHouse$Tape" "kind" "I") (List.mem_of_getElem? (i := 4) rfl)) (fun _ h9 => h9) rfl (tyX6_ok 1 (by decide)) rfl rfl (Nat.le_of_ble_eq_true rfl) dX6_advance_45 (fun H locs hP hD hS => ?_)
    have hP : va_P D vwCl (ws_245.set ktp (tp, .inr (6, [.int (nI tl), .int (nI k_255), .int (nI a_2), .int (nI te), .ref bb]))) H := hP
    have hD : va_D A (ws_245.set ktp (tp, .inr (6, [.int (nI tl), .int (nI k_255), .int (nI a_2), .int (nI te), .ref bb]))) := hD
    have hm_258 : sm ρ [6] ws_245 (ws_245.set ktp (tp, .inr (6, [.int (nI tl), .int (nI k_255), .int (nI a_2), .int (nI te), .ref bb]))) := sm.flds e_247 (smF.c (smV.rf _) (smF.c (smV.i _ _) (smF.c (smV.rf _) (smF.c (smV.rf _) (smF.c (smV.rf _) (rfl)))))) (List.mem_singleton.mpr rfl) w_ktp
    have e_259 : (ws_245.set ktp (tp, .inr (6, [.int (nI tl), .int (nI k_255), .int (nI a_2), .int (nI te), .ref bb])))[ktp]? = some (tp, .inr (6, [.int (nI tl), .int (nI k_255), .int (nI a_2), .int (nI te), .ref bb])) := wset_self e_247
    generalize ws_245.set ktp (tp, .inr (6, [.int (nI tl), .int (nI k_255), .int (nI a_2), .int (nI te), .ref bb])) = ws_257 at hP hD hm_258 e_259
    obtain ⟨f_261, e_260⟩ := hm_258.arrI e_248
    have hsm := hsm.tr (hm_258.mono (by decide))
    have hlp_6 := hlp_6.tr (hm_258.mono (by decide))
    refine lv_aload_n hx hb dX6_advance_48 rfl (lv_at hl 1 rfl) ?_
    refine lv_aload_n hx hb dX6_advance_49 rfl (lv_at hl 1 rfl) ?_
    refine va_get (D := D) (ci := 6) (v := .int (nI k_255)) (C := RX6) (T := TX6) (N := 5) hx hb hts hin6 hown hK hP ktp e_259 rfl 1 (by decide) (hts (.fieldLink RX6 35 "HoneyHouse$Tape" "kind" "I") (List.mem_of_getElem? (i := 4) rfl)) (fun _ h9 => h9) rfl dX6_advance_50 ?_
    refine lv_if_ne (tgt := 60) hx hb dX6_advance_53 (by decide) (fun c_262 => ?_) (fun c_262 => ?_)
    · have d_263 := n_ne (a := k_255) (b := 0) (by omega) (by omega) c_262
      have hlt : a_2 < tl := k_251.elim (fun q => absurd (n_eq (a := k_255) (b := 0) (by omega) (by omega) (hk_254 q)) d_263) (fun q => n_nle (a := tl) (b := a_2) (by omega) (by omega) q)
      refine lv_iload_n hx hb dX6_advance_60 rfl (lv_at hl 0 rfl) ?_
      refine lv_iconst (v := 1) hx hb dX6_advance_61 (by decide) ?_
      refine lv_iadd hx hb dX6_advance_62 ?_
      refine tp_i (y := nI (a_2 + 1)) (nI_add a_2 1) ?_
      refine va_put (D := D) (ci := 6) (v := .int (nI (a_2 + 1))) (ty := .int) (C := RX6) (T := TX6) (N := 5) hx hb hts hin6 tyX6 tyX6_ok nmX6 hown hK hP hD hS ktp e_259 rfl 3 (by decide) (hts (.fieldLink RX6 19 "HoneyHouse$Tape" "end" "I") (List.mem_of_getElem? (i := 1) rfl)) (fun _ h9 => h9) rfl (tyX6_ok 3 (by decide)) rfl rfl (Nat.le_of_ble_eq_true rfl) dX6_advance_63 (fun H locs hP hD hS => ?_)
      have hP : va_P D vwCl (ws_257.set ktp (tp, .inr (6, [.int (nI tl), .int (nI k_255), .int (nI a_2), .int (nI (a_2 + 1)), .ref bb]))) H := hP
      have hD : va_D A (ws_257.set ktp (tp, .inr (6, [.int (nI tl), .int (nI k_255), .int (nI a_2), .int (nI (a_2 + 1)), .ref bb]))) := hD
      have hm_265 : sm ρ [6] ws_257 (ws_257.set ktp (tp, .inr (6, [.int (nI tl), .int (nI k_255), .int (nI a_2), .int (nI (a_2 + 1)), .ref bb]))) := sm.flds e_259 (smF.c (smV.rf _) (smF.c (smV.rf _) (smF.c (smV.rf _) (smF.c (smV.i _ _) (smF.c (smV.rf _) (rfl)))))) (List.mem_singleton.mpr rfl) w_ktp
      have e_266 : (ws_257.set ktp (tp, .inr (6, [.int (nI tl), .int (nI k_255), .int (nI a_2), .int (nI (a_2 + 1)), .ref bb])))[ktp]? = some (tp, .inr (6, [.int (nI tl), .int (nI k_255), .int (nI a_2), .int (nI (a_2 + 1)), .ref bb])) := wset_self e_259
      generalize ws_257.set ktp (tp, .inr (6, [.int (nI tl), .int (nI k_255), .int (nI a_2), .int (nI (a_2 + 1)), .ref bb])) = ws_264 at hP hD hm_265 e_266
      obtain ⟨f_268, e_267⟩ := hm_265.arrI e_260
      have hsm := hsm.tr (hm_265.mono (by decide))
      have hlp_6 := hlp_6.tr (hm_265.mono (by decide))
      refine lv_aload_n hx hb dX6_advance_66 rfl (lv_at hl 1 rfl) ?_
      refine va_get (D := D) (ci := 6) (v := .int (nI k_255)) (C := RX6) (T := TX6) (N := 5) hx hb hts hin6 hown hK hP ktp e_266 rfl 1 (by decide) (hts (.fieldLink RX6 35 "HoneyHouse$Tape" "kind" "I") (List.mem_of_getElem? (i := 4) rfl)) (fun _ h9 => h9) rfl dX6_advance_67 ?_
      refine lv_iconst (v := 1) hx hb dX6_advance_70 (by decide) ?_
      refine lv_icmp_eq (tgt := 82) hx hb dX6_advance_71 (by decide) (fun c_269 => ?_) (fun c_269 => ?_)
      · have d_270 := n_eq (a := k_255) (b := 1) (by omega) (by omega) c_269
        refine lv_iconst (v := 1) hx hb dX6_advance_82 (by decide) ?_
        refine lv_goto (tgt := 87) hx hb dX6_advance_83 (by decide) ?_
        refine lv_istore_n (lv' := [(2, .int 1), (1, .int (nI a_2)), (0, .ref tp)]) hx hb dX6_advance_87 rfl hl (by decide) rfl (fun ls hl => ?_)
        refine lp_V (nL := 3) (σ := Nat) (lv := fun x9 => [(2, .int 1), (0, .ref tp)]) (μ := fun x9 => tl - x9) (J := fun x9 ws9 => sm ρ [6] ws_264 ws9 ∧ (ws9[ktp]? = some (tp, .inr (6, [.int (nI tl), .int (nI k_255), .int (nI a_2), .int (nI x9), .ref bb]))) ∧ (a_2 ≤ x9 ∧ x9 ≤ tl)) (fun x9 ws_274 H locs ls hj hP hD hS hl ih_271 => ?_) (a_2 + 1) ws_264 _ _ ls ⟨sm.rf _, e_266, (show a_2 ≤ (a_2 + 1) ∧ (a_2 + 1) ≤ tl from by omega)⟩ hP hD hS (lv_sub hl [0, 2] rfl)
        obtain ⟨e9_272, hx9⟩ : ∃ y9, y9 = x9 := ⟨_, rfl⟩
        subst hx9
        replace hj : sm ρ [6] ws_264 ws_274 ∧ (ws_274[ktp]? = some (tp, .inr (6, [.int (nI tl), .int (nI k_255), .int (nI a_2), .int (nI e9_272), .ref bb]))) ∧ (a_2 ≤ e9_272 ∧ e9_272 ≤ tl) := hj
        obtain ⟨hm_275, e_277, he_273⟩ := hj
        obtain ⟨g_279, e_278, h_280⟩ := hm_275.obj e_266
        obtain ⟨z_281, z_282, z_283, z_284, rfl⟩ := smX6 h_280
        obtain ⟨f_286, e_285⟩ := hm_275.arrI e_267
        have hsm := hsm.tr (hm_275.mono (by decide))
        have hlp_6 := hlp_6.tr (hm_275.mono (by decide))
        have hlp_276 := hm_275
        have hl : lv_has ls 3 [(2, .int 1), (0, .ref tp)] := hl
        refine lv_iload_n hx hb dX6_advance_88 rfl (lv_at hl 0 rfl) ?_
        refine lv_if_eq (tgt := 134) hx hb dX6_advance_89 (by decide) (fun c_287 => absurd c_287 (by decide)) (fun c_287 => ?_)
        refine lv_aload_n hx hb dX6_advance_92 rfl (lv_at hl 1 rfl) ?_
        refine va_get (D := D) (ci := 6) (v := .int (nI e9_272)) (C := RX6) (T := TX6) (N := 5) hx hb hts hin6 hown hK hP ktp e_277 rfl 3 (by decide) (hts (.fieldLink RX6 19 "HoneyHouse$Tape" "end" "I") (List.mem_of_getElem? (i := 1) rfl)) (fun _ h9 => h9) rfl dX6_advance_93 ?_
        refine lv_aload_n hx hb dX6_advance_96 rfl (lv_at hl 1 rfl) ?_
        refine va_get (D := D) (ci := 6) (v := .int (nI tl)) (C := RX6) (T := TX6) (N := 5) hx hb hts hin6 hown hK hP ktp e_277 rfl 0 (by decide) (hts (.fieldLink RX6 15 "HoneyHouse$Tape" "length" "I") (List.mem_of_getElem? (i := 2) rfl)) (fun _ h9 => h9) rfl dX6_advance_97 ?_
        refine lv_icmp_ge (tgt := 134) hx hb dX6_advance_100 (by decide) (fun c_288 => ?_) (fun c_288 => ?_)
        · have d_289 := n_le (a := tl) (b := e9_272) (by omega) (by omega) c_288
          exact W.vret hx hb hr (fun t ht hW => ⟨⟨(), rfl, trivial, ws_274, tys, hsm, htx, by rw [ht]; exact hP, va_K.moved hW.alike hK, hD, ⟨k_255, a_2, e9_272, by omega, by omega, by omega, e_277⟩⟩, hS.F ht⟩) hS.2.2 dX6_advance_134
        have d_290 := n_nle (a := tl) (b := e9_272) (by omega) (by omega) c_288
        refine lv_aload_n hx hb dX6_advance_103 rfl (lv_at hl 1 rfl) ?_
        refine lv_aload_n hx hb dX6_advance_104 rfl (lv_at hl 1 rfl) ?_
        refine va_get (D := D) (ci := 6) (v := .int (nI e9_272)) (C := RX6) (T := TX6) (N := 5) hx hb hts hin6 hown hK hP ktp e_277 rfl 3 (by decide) (hts (.fieldLink RX6 19 "HoneyHouse$Tape" "end" "I") (List.mem_of_getElem? (i := 1) rfl)) (fun _ h9 => h9) rfl dX6_advance_105 ?_
        refine vp_callSi (W.runV (As := [.int (nI e9_272)]) (rest := []) ⟨hx, hb, hml, hown, hts⟩ (s_byteAt l D ws_274 tys tp ktp tl (nI k_255) (nI a_2) (nI e9_272) bb kbb cbb tbb f_286 (nI e9_272) e_277 e_285 ubb) (cwV 1 hts gX6_advance_X6_byteAt rfl rfl rfl (by decide +kernel) ⟨Nat.le_of_ble_eq_true rfl, Nat.le_of_ble_eq_true rfl⟩) ⟨fun a U g mk q => ⟨q.1, q.2.1, va_K.moved (u := U) (U := U.calling g mk a) (Vm.Alike.refl U.vm) q.2.2⟩, va_recv hK hP (ci := 6) (q0 := ktp) rfl e_277, fun U hU hW => ⟨rfl, by rw [hU]; exact hP, va_K.moved hW.alike hK⟩⟩ rfl rfl hl.1 rfl (lv_room (Nat.le_of_ble_eq_true rfl)) dX6_advance_108 ⟨Nat.le_of_ble_eq_true rfl, Nat.le_of_ble_eq_true rfl⟩) (fun r_291 k_292 => ?_)
        refine vp_callSi (W.runS (As := [.int r_291]) (rest := []) ⟨hx, hb, hml, hown, hts⟩ (s_kindOf l r_291) (va_cwS 1 hts gX6_advance_X6_kindOf rfl rfl rfl (by decide +kernel) ⟨Nat.le_of_ble_eq_true rfl, Nat.le_of_ble_eq_true rfl⟩) ⟨fun a U g mk q => q, fun U hU hW => ⟨rfl, trivial⟩⟩ rfl rfl hl.1 rfl (lv_room (Nat.le_of_ble_eq_true rfl)) dX6_advance_111 ⟨Nat.le_of_ble_eq_true rfl, Nat.le_of_ble_eq_true rfl⟩) (fun r_293 k_294 => ?_)
        obtain ⟨hk_295, k_296, hk_297, rfl⟩ := k_294
        refine lv_aload_n hx hb dX6_advance_114 rfl (lv_at hl 1 rfl) ?_
        refine va_get (D := D) (ci := 6) (v := .int (nI k_255)) (C := RX6) (T := TX6) (N := 5) hx hb hts hin6 hown hK hP ktp e_277 rfl 1 (by decide) (hts (.fieldLink RX6 35 "HoneyHouse$Tape" "kind" "I") (List.mem_of_getElem? (i := 4) rfl)) (fun _ h9 => h9) rfl dX6_advance_115 ?_
        refine lv_icmp_ne (tgt := 134) hx hb dX6_advance_118 (by decide) (fun c_298 => ?_) (fun c_298 => ?_)
        · have d_299 := n_ne (a := k_296) (b := k_255) (by omega) (by omega) c_298
          exact W.vret hx hb hr (fun t ht hW => ⟨⟨(), rfl, trivial, ws_274, tys, hsm, htx, by rw [ht]; exact hP, va_K.moved hW.alike hK, hD, ⟨k_255, a_2, e9_272, by omega, by omega, by omega, e_277⟩⟩, hS.F ht⟩) hS.2.2 dX6_advance_134
        have d_300 := n_eq (a := k_296) (b := k_255) (by omega) (by omega) c_298
        refine lv_aload_n hx hb dX6_advance_121 rfl (lv_at hl 1 rfl) ?_
        refine lv_dup hx hb dX6_advance_122 rfl ?_
        refine va_get (D := D) (ci := 6) (v := .int (nI e9_272)) (C := RX6) (T := TX6) (N := 5) hx hb hts hin6 hown hK hP ktp e_277 rfl 3 (by decide) (hts (.fieldLink RX6 19 "HoneyHouse$Tape" "end" "I") (List.mem_of_getElem? (i := 1) rfl)) (fun _ h9 => h9) rfl dX6_advance_123 ?_
        refine lv_iconst (v := 1) hx hb dX6_advance_126 (by decide) ?_
        refine lv_iadd hx hb dX6_advance_127 ?_
        refine tp_i (y := nI (e9_272 + 1)) (nI_add e9_272 1) ?_
        refine va_put (D := D) (ci := 6) (v := .int (nI (e9_272 + 1))) (ty := .int) (C := RX6) (T := TX6) (N := 5) hx hb hts hin6 tyX6 tyX6_ok nmX6 hown hK hP hD hS ktp e_277 rfl 3 (by decide) (hts (.fieldLink RX6 19 "HoneyHouse$Tape" "end" "I") (List.mem_of_getElem? (i := 1) rfl)) (fun _ h9 => h9) rfl (tyX6_ok 3 (by decide)) rfl rfl (Nat.le_of_ble_eq_true rfl) dX6_advance_128 (fun H locs hP hD hS => ?_)
        have hP : va_P D vwCl (ws_274.set ktp (tp, .inr (6, [.int (nI tl), .int (nI k_255), .int (nI a_2), .int (nI (e9_272 + 1)), .ref bb]))) H := hP
        have hD : va_D A (ws_274.set ktp (tp, .inr (6, [.int (nI tl), .int (nI k_255), .int (nI a_2), .int (nI (e9_272 + 1)), .ref bb]))) := hD
        have hm_302 : sm ρ [6] ws_274 (ws_274.set ktp (tp, .inr (6, [.int (nI tl), .int (nI k_255), .int (nI a_2), .int (nI (e9_272 + 1)), .ref bb]))) := sm.flds e_277 (smF.c (smV.rf _) (smF.c (smV.rf _) (smF.c (smV.rf _) (smF.c (smV.i _ _) (smF.c (smV.rf _) (rfl)))))) (List.mem_singleton.mpr rfl) w_ktp
        have e_303 : (ws_274.set ktp (tp, .inr (6, [.int (nI tl), .int (nI k_255), .int (nI a_2), .int (nI (e9_272 + 1)), .ref bb])))[ktp]? = some (tp, .inr (6, [.int (nI tl), .int (nI k_255), .int (nI a_2), .int (nI (e9_272 + 1)), .ref bb])) := wset_self e_277
        generalize ws_274.set ktp (tp, .inr (6, [.int (nI tl), .int (nI k_255), .int (nI a_2), .int (nI (e9_272 + 1)), .ref bb])) = ws_301 at hP hD hm_302 e_303
        obtain ⟨f_305, e_304⟩ := hm_302.arrI e_285
        have hsm := hsm.tr (hm_302.mono (by decide))
        have hlp_6 := hlp_6.tr (hm_302.mono (by decide))
        have hlp_276 := hlp_276.tr (hm_302.mono (by decide))
        refine lv_goto (tgt := 88) hx hb dX6_advance_131 (by decide) ?_
        exact ih_271 (e9_272 + 1) ws_301 _ _ ls (by show tl - (e9_272 + 1) < tl - e9_272; omega) ⟨hlp_276, e_303, (show a_2 ≤ (e9_272 + 1) ∧ (e9_272 + 1) ≤ tl from by omega)⟩ hP hD hS (lv_sub hl [0, 1] rfl)
      have d_306 := n_ne (a := k_255) (b := 1) (by omega) (by omega) c_269
      refine lv_aload_n hx hb dX6_advance_74 rfl (lv_at hl 1 rfl) ?_
      refine va_get (D := D) (ci := 6) (v := .int (nI k_255)) (C := RX6) (T := TX6) (N := 5) hx hb hts hin6 hown hK hP ktp e_266 rfl 1 (by decide) (hts (.fieldLink RX6 35 "HoneyHouse$Tape" "kind" "I") (List.mem_of_getElem? (i := 4) rfl)) (fun _ h9 => h9) rfl dX6_advance_75 ?_
      refine lv_iconst (v := 2) hx hb dX6_advance_78 (by decide) ?_
      refine lv_icmp_ne (tgt := 86) hx hb dX6_advance_79 (by decide) (fun c_307 => ?_) (fun c_307 => ?_)
      · have d_308 := n_ne (a := k_255) (b := 2) (by omega) (by omega) c_307
        refine lv_iconst (v := 0) hx hb dX6_advance_86 (by decide) ?_
        refine lv_istore_n (lv' := [(2, .int 0), (1, .int (nI a_2)), (0, .ref tp)]) hx hb dX6_advance_87 rfl hl (by decide) rfl (fun ls hl => ?_)
        refine lp_V (nL := 3) (σ := Nat) (lv := fun x9 => [(2, .int 0), (0, .ref tp)]) (μ := fun x9 => tl - x9) (J := fun x9 ws9 => sm ρ [6] ws_264 ws9 ∧ (ws9[ktp]? = some (tp, .inr (6, [.int (nI tl), .int (nI k_255), .int (nI a_2), .int (nI x9), .ref bb]))) ∧ (a_2 ≤ x9 ∧ x9 ≤ tl)) (fun x9 ws_312 H locs ls hj hP hD hS hl ih_309 => ?_) (a_2 + 1) ws_264 _ _ ls ⟨sm.rf _, e_266, (show a_2 ≤ (a_2 + 1) ∧ (a_2 + 1) ≤ tl from by omega)⟩ hP hD hS (lv_sub hl [0, 2] rfl)
        obtain ⟨e9_310, hx9⟩ : ∃ y9, y9 = x9 := ⟨_, rfl⟩
        subst hx9
        replace hj : sm ρ [6] ws_264 ws_312 ∧ (ws_312[ktp]? = some (tp, .inr (6, [.int (nI tl), .int (nI k_255), .int (nI a_2), .int (nI e9_310), .ref bb]))) ∧ (a_2 ≤ e9_310 ∧ e9_310 ≤ tl) := hj
        obtain ⟨hm_313, e_315, he_311⟩ := hj
        obtain ⟨g_317, e_316, h_318⟩ := hm_313.obj e_266
        obtain ⟨z_319, z_320, z_321, z_322, rfl⟩ := smX6 h_318
        obtain ⟨f_324, e_323⟩ := hm_313.arrI e_267
        have hsm := hsm.tr (hm_313.mono (by decide))
        have hlp_6 := hlp_6.tr (hm_313.mono (by decide))
        have hlp_314 := hm_313
        have hl : lv_has ls 3 [(2, .int 0), (0, .ref tp)] := hl
        refine lv_iload_n hx hb dX6_advance_88 rfl (lv_at hl 0 rfl) ?_
        refine lv_if_eq (tgt := 134) hx hb dX6_advance_89 (by decide) (fun c_325 => ?_) (fun c_325 => absurd (by decide) c_325)
        exact W.vret hx hb hr (fun t ht hW => ⟨⟨(), rfl, trivial, ws_312, tys, hsm, htx, by rw [ht]; exact hP, va_K.moved hW.alike hK, hD, ⟨k_255, a_2, e9_310, by omega, by omega, by omega, e_315⟩⟩, hS.F ht⟩) hS.2.2 dX6_advance_134
      have d_326 := n_eq (a := k_255) (b := 2) (by omega) (by omega) c_307
      refine lv_iconst (v := 1) hx hb dX6_advance_82 (by decide) ?_
      refine lv_goto (tgt := 87) hx hb dX6_advance_83 (by decide) ?_
      refine lv_istore_n (lv' := [(2, .int 1), (1, .int (nI a_2)), (0, .ref tp)]) hx hb dX6_advance_87 rfl hl (by decide) rfl (fun ls hl => ?_)
      refine lp_V (nL := 3) (σ := Nat) (lv := fun x9 => [(2, .int 1), (0, .ref tp)]) (μ := fun x9 => tl - x9) (J := fun x9 ws9 => sm ρ [6] ws_264 ws9 ∧ (ws9[ktp]? = some (tp, .inr (6, [.int (nI tl), .int (nI k_255), .int (nI a_2), .int (nI x9), .ref bb]))) ∧ (a_2 ≤ x9 ∧ x9 ≤ tl)) (fun x9 ws_330 H locs ls hj hP hD hS hl ih_327 => ?_) (a_2 + 1) ws_264 _ _ ls ⟨sm.rf _, e_266, (show a_2 ≤ (a_2 + 1) ∧ (a_2 + 1) ≤ tl from by omega)⟩ hP hD hS (lv_sub hl [0, 2] rfl)
      obtain ⟨e9_328, hx9⟩ : ∃ y9, y9 = x9 := ⟨_, rfl⟩
      subst hx9
      replace hj : sm ρ [6] ws_264 ws_330 ∧ (ws_330[ktp]? = some (tp, .inr (6, [.int (nI tl), .int (nI k_255), .int (nI a_2), .int (nI e9_328), .ref bb]))) ∧ (a_2 ≤ e9_328 ∧ e9_328 ≤ tl) := hj
      obtain ⟨hm_331, e_333, he_329⟩ := hj
      obtain ⟨g_335, e_334, h_336⟩ := hm_331.obj e_266
      obtain ⟨z_337, z_338, z_339, z_340, rfl⟩ := smX6 h_336
      obtain ⟨f_342, e_341⟩ := hm_331.arrI e_267
      have hsm := hsm.tr (hm_331.mono (by decide))
      have hlp_6 := hlp_6.tr (hm_331.mono (by decide))
      have hlp_332 := hm_331
      have hl : lv_has ls 3 [(2, .int 1), (0, .ref tp)] := hl
      refine lv_iload_n hx hb dX6_advance_88 rfl (lv_at hl 0 rfl) ?_
      refine lv_if_eq (tgt := 134) hx hb dX6_advance_89 (by decide) (fun c_343 => absurd c_343 (by decide)) (fun c_343 => ?_)
      refine lv_aload_n hx hb dX6_advance_92 rfl (lv_at hl 1 rfl) ?_
      refine va_get (D := D) (ci := 6) (v := .int (nI e9_328)) (C := RX6) (T := TX6) (N := 5) hx hb hts hin6 hown hK hP ktp e_333 rfl 3 (by decide) (hts (.fieldLink RX6 19 "HoneyHouse$Tape" "end" "I") (List.mem_of_getElem? (i := 1) rfl)) (fun _ h9 => h9) rfl dX6_advance_93 ?_
      refine lv_aload_n hx hb dX6_advance_96 rfl (lv_at hl 1 rfl) ?_
      refine va_get (D := D) (ci := 6) (v := .int (nI tl)) (C := RX6) (T := TX6) (N := 5) hx hb hts hin6 hown hK hP ktp e_333 rfl 0 (by decide) (hts (.fieldLink RX6 15 "HoneyHouse$Tape" "length" "I") (List.mem_of_getElem? (i := 2) rfl)) (fun _ h9 => h9) rfl dX6_advance_97 ?_
      refine lv_icmp_ge (tgt := 134) hx hb dX6_advance_100 (by decide) (fun c_344 => ?_) (fun c_344 => ?_)
      · have d_345 := n_le (a := tl) (b := e9_328) (by omega) (by omega) c_344
        exact W.vret hx hb hr (fun t ht hW => ⟨⟨(), rfl, trivial, ws_330, tys, hsm, htx, by rw [ht]; exact hP, va_K.moved hW.alike hK, hD, ⟨k_255, a_2, e9_328, by omega, by omega, by omega, e_333⟩⟩, hS.F ht⟩) hS.2.2 dX6_advance_134
      have d_346 := n_nle (a := tl) (b := e9_328) (by omega) (by omega) c_344
      refine lv_aload_n hx hb dX6_advance_103 rfl (lv_at hl 1 rfl) ?_
      refine lv_aload_n hx hb dX6_advance_104 rfl (lv_at hl 1 rfl) ?_
      refine va_get (D := D) (ci := 6) (v := .int (nI e9_328)) (C := RX6) (T := TX6) (N := 5) hx hb hts hin6 hown hK hP ktp e_333 rfl 3 (by decide) (hts (.fieldLink RX6 19 "HoneyHouse$Tape" "end" "I") (List.mem_of_getElem? (i := 1) rfl)) (fun _ h9 => h9) rfl dX6_advance_105 ?_
      refine vp_callSi (W.runV (As := [.int (nI e9_328)]) (rest := []) ⟨hx, hb, hml, hown, hts⟩ (s_byteAt l D ws_330 tys tp ktp tl (nI k_255) (nI a_2) (nI e9_328) bb kbb cbb tbb f_342 (nI e9_328) e_333 e_341 ubb) (cwV 1 hts gX6_advance_X6_byteAt rfl rfl rfl (by decide +kernel) ⟨Nat.le_of_ble_eq_true rfl, Nat.le_of_ble_eq_true rfl⟩) ⟨fun a U g mk q => ⟨q.1, q.2.1, va_K.moved (u := U) (U := U.calling g mk a) (Vm.Alike.refl U.vm) q.2.2⟩, va_recv hK hP (ci := 6) (q0 := ktp) rfl e_333, fun U hU hW => ⟨rfl, by rw [hU]; exact hP, va_K.moved hW.alike hK⟩⟩ rfl rfl hl.1 rfl (lv_room (Nat.le_of_ble_eq_true rfl)) dX6_advance_108 ⟨Nat.le_of_ble_eq_true rfl, Nat.le_of_ble_eq_true rfl⟩) (fun r_347 k_348 => ?_)
      refine vp_callSi (W.runS (As := [.int r_347]) (rest := []) ⟨hx, hb, hml, hown, hts⟩ (s_kindOf l r_347) (va_cwS 1 hts gX6_advance_X6_kindOf rfl rfl rfl (by decide +kernel) ⟨Nat.le_of_ble_eq_true rfl, Nat.le_of_ble_eq_true rfl⟩) ⟨fun a U g mk q => q, fun U hU hW => ⟨rfl, trivial⟩⟩ rfl rfl hl.1 rfl (lv_room (Nat.le_of_ble_eq_true rfl)) dX6_advance_111 ⟨Nat.le_of_ble_eq_true rfl, Nat.le_of_ble_eq_true rfl⟩) (fun r_349 k_350 => ?_)
      obtain ⟨hk_351, k_352, hk_353, rfl⟩ := k_350
      refine lv_aload_n hx hb dX6_advance_114 rfl (lv_at hl 1 rfl) ?_
      refine va_get (D := D) (ci := 6) (v := .int (nI k_255)) (C := RX6) (T := TX6) (N := 5) hx hb hts hin6 hown hK hP ktp e_333 rfl 1 (by decide) (hts (.fieldLink RX6 35 "HoneyHouse$Tape" "kind" "I") (List.mem_of_getElem? (i := 4) rfl)) (fun _ h9 => h9) rfl dX6_advance_115 ?_
      refine lv_icmp_ne (tgt := 134) hx hb dX6_advance_118 (by decide) (fun c_354 => ?_) (fun c_354 => ?_)
      · have d_355 := n_ne (a := k_352) (b := k_255) (by omega) (by omega) c_354
        exact W.vret hx hb hr (fun t ht hW => ⟨⟨(), rfl, trivial, ws_330, tys, hsm, htx, by rw [ht]; exact hP, va_K.moved hW.alike hK, hD, ⟨k_255, a_2, e9_328, by omega, by omega, by omega, e_333⟩⟩, hS.F ht⟩) hS.2.2 dX6_advance_134
      have d_356 := n_eq (a := k_352) (b := k_255) (by omega) (by omega) c_354
      refine lv_aload_n hx hb dX6_advance_121 rfl (lv_at hl 1 rfl) ?_
      refine lv_dup hx hb dX6_advance_122 rfl ?_
      refine va_get (D := D) (ci := 6) (v := .int (nI e9_328)) (C := RX6) (T := TX6) (N := 5) hx hb hts hin6 hown hK hP ktp e_333 rfl 3 (by decide) (hts (.fieldLink RX6 19 "HoneyHouse$Tape" "end" "I") (List.mem_of_getElem? (i := 1) rfl)) (fun _ h9 => h9) rfl dX6_advance_123 ?_
      refine lv_iconst (v := 1) hx hb dX6_advance_126 (by decide) ?_
      refine lv_iadd hx hb dX6_advance_127 ?_
      refine tp_i (y := nI (e9_328 + 1)) (nI_add e9_328 1) ?_
      refine va_put (D := D) (ci := 6) (v := .int (nI (e9_328 + 1))) (ty := .int) (C := RX6) (T := TX6) (N := 5) hx hb hts hin6 tyX6 tyX6_ok nmX6 hown hK hP hD hS ktp e_333 rfl 3 (by decide) (hts (.fieldLink RX6 19 "HoneyHouse$Tape" "end" "I") (List.mem_of_getElem? (i := 1) rfl)) (fun _ h9 => h9) rfl (tyX6_ok 3 (by decide)) rfl rfl (Nat.le_of_ble_eq_true rfl) dX6_advance_128 (fun H locs hP hD hS => ?_)
      have hP : va_P D vwCl (ws_330.set ktp (tp, .inr (6, [.int (nI tl), .int (nI k_255), .int (nI a_2), .int (nI (e9_328 + 1)), .ref bb]))) H := hP
      have hD : va_D A (ws_330.set ktp (tp, .inr (6, [.int (nI tl), .int (nI k_255), .int (nI a_2), .int (nI (e9_328 + 1)), .ref bb]))) := hD
      have hm_358 : sm ρ [6] ws_330 (ws_330.set ktp (tp, .inr (6, [.int (nI tl), .int (nI k_255), .int (nI a_2), .int (nI (e9_328 + 1)), .ref bb]))) := sm.flds e_333 (smF.c (smV.rf _) (smF.c (smV.rf _) (smF.c (smV.rf _) (smF.c (smV.i _ _) (smF.c (smV.rf _) (rfl)))))) (List.mem_singleton.mpr rfl) w_ktp
      have e_359 : (ws_330.set ktp (tp, .inr (6, [.int (nI tl), .int (nI k_255), .int (nI a_2), .int (nI (e9_328 + 1)), .ref bb])))[ktp]? = some (tp, .inr (6, [.int (nI tl), .int (nI k_255), .int (nI a_2), .int (nI (e9_328 + 1)), .ref bb])) := wset_self e_333
      generalize ws_330.set ktp (tp, .inr (6, [.int (nI tl), .int (nI k_255), .int (nI a_2), .int (nI (e9_328 + 1)), .ref bb])) = ws_357 at hP hD hm_358 e_359
      obtain ⟨f_361, e_360⟩ := hm_358.arrI e_341
      have hsm := hsm.tr (hm_358.mono (by decide))
      have hlp_6 := hlp_6.tr (hm_358.mono (by decide))
      have hlp_332 := hlp_332.tr (hm_358.mono (by decide))
      refine lv_goto (tgt := 88) hx hb dX6_advance_131 (by decide) ?_
      exact ih_327 (e9_328 + 1) ws_357 _ _ ls (by show tl - (e9_328 + 1) < tl - e9_328; omega) ⟨hlp_332, e_359, (show a_2 ≤ (e9_328 + 1) ∧ (e9_328 + 1) ≤ tl from by omega)⟩ hP hD hS (lv_sub hl [0, 1] rfl)
    have d_362 := n_eq (a := k_255) (b := 0) (by omega) (by omega) c_262
    refine lv_iload_n hx hb dX6_advance_56 rfl (lv_at hl 0 rfl) ?_
    refine lv_goto (tgt := 63) hx hb dX6_advance_57 (by decide) ?_
    refine va_put (D := D) (ci := 6) (v := .int (nI a_2)) (ty := .int) (C := RX6) (T := TX6) (N := 5) hx hb hts hin6 tyX6 tyX6_ok nmX6 hown hK hP hD hS ktp e_259 rfl 3 (by decide) (hts (.fieldLink RX6 19 "HoneyHouse$Tape" "end" "I") (List.mem_of_getElem? (i := 1) rfl)) (fun _ h9 => h9) rfl (tyX6_ok 3 (by decide)) rfl rfl (Nat.le_of_ble_eq_true rfl) dX6_advance_63 (fun H locs hP hD hS => ?_)
    have hP : va_P D vwCl (ws_257.set ktp (tp, .inr (6, [.int (nI tl), .int (nI k_255), .int (nI a_2), .int (nI a_2), .ref bb]))) H := hP
    have hD : va_D A (ws_257.set ktp (tp, .inr (6, [.int (nI tl), .int (nI k_255), .int (nI a_2), .int (nI a_2), .ref bb]))) := hD
    have hm_364 : sm ρ [6] ws_257 (ws_257.set ktp (tp, .inr (6, [.int (nI tl), .int (nI k_255), .int (nI a_2), .int (nI a_2), .ref bb]))) := sm.flds e_259 (smF.c (smV.rf _) (smF.c (smV.rf _) (smF.c (smV.rf _) (smF.c (smV.i _ _) (smF.c (smV.rf _) (rfl)))))) (List.mem_singleton.mpr rfl) w_ktp
    have e_365 : (ws_257.set ktp (tp, .inr (6, [.int (nI tl), .int (nI k_255), .int (nI a_2), .int (nI a_2), .ref bb])))[ktp]? = some (tp, .inr (6, [.int (nI tl), .int (nI k_255), .int (nI a_2), .int (nI a_2), .ref bb])) := wset_self e_259
    generalize ws_257.set ktp (tp, .inr (6, [.int (nI tl), .int (nI k_255), .int (nI a_2), .int (nI a_2), .ref bb])) = ws_363 at hP hD hm_364 e_365
    obtain ⟨f_367, e_366⟩ := hm_364.arrI e_260
    have hsm := hsm.tr (hm_364.mono (by decide))
    have hlp_6 := hlp_6.tr (hm_364.mono (by decide))
    refine lv_aload_n hx hb dX6_advance_66 rfl (lv_at hl 1 rfl) ?_
    refine va_get (D := D) (ci := 6) (v := .int (nI k_255)) (C := RX6) (T := TX6) (N := 5) hx hb hts hin6 hown hK hP ktp e_365 rfl 1 (by decide) (hts (.fieldLink RX6 35 "HoneyHouse$Tape" "kind" "I") (List.mem_of_getElem? (i := 4) rfl)) (fun _ h9 => h9) rfl dX6_advance_67 ?_
    refine lv_iconst (v := 1) hx hb dX6_advance_70 (by decide) ?_
    refine lv_icmp_eq (tgt := 82) hx hb dX6_advance_71 (by decide) (fun c_368 => ?_) (fun c_368 => ?_)
    · have d_369 := n_eq (a := k_255) (b := 1) (by omega) (by omega) c_368
      refine lv_iconst (v := 1) hx hb dX6_advance_82 (by decide) ?_
      refine lv_goto (tgt := 87) hx hb dX6_advance_83 (by decide) ?_
      refine lv_istore_n (lv' := [(2, .int 1), (1, .int (nI a_2)), (0, .ref tp)]) hx hb dX6_advance_87 rfl hl (by decide) rfl (fun ls hl => ?_)
      refine lp_V (nL := 3) (σ := Nat) (lv := fun x9 => [(2, .int 1), (0, .ref tp)]) (μ := fun x9 => tl - x9) (J := fun x9 ws9 => sm ρ [6] ws_363 ws9 ∧ (ws9[ktp]? = some (tp, .inr (6, [.int (nI tl), .int (nI k_255), .int (nI a_2), .int (nI x9), .ref bb]))) ∧ (a_2 ≤ x9 ∧ x9 ≤ tl)) (fun x9 ws_373 H locs ls hj hP hD hS hl ih_370 => ?_) a_2 ws_363 _ _ ls ⟨sm.rf _, e_365, (show a_2 ≤ a_2 ∧ a_2 ≤ tl from by omega)⟩ hP hD hS (lv_sub hl [0, 2] rfl)
      obtain ⟨e9_371, hx9⟩ : ∃ y9, y9 = x9 := ⟨_, rfl⟩
      subst hx9
      replace hj : sm ρ [6] ws_363 ws_373 ∧ (ws_373[ktp]? = some (tp, .inr (6, [.int (nI tl), .int (nI k_255), .int (nI a_2), .int (nI e9_371), .ref bb]))) ∧ (a_2 ≤ e9_371 ∧ e9_371 ≤ tl) := hj
      obtain ⟨hm_374, e_376, he_372⟩ := hj
      obtain ⟨g_378, e_377, h_379⟩ := hm_374.obj e_365
      obtain ⟨z_380, z_381, z_382, z_383, rfl⟩ := smX6 h_379
      obtain ⟨f_385, e_384⟩ := hm_374.arrI e_366
      have hsm := hsm.tr (hm_374.mono (by decide))
      have hlp_6 := hlp_6.tr (hm_374.mono (by decide))
      have hlp_375 := hm_374
      have hl : lv_has ls 3 [(2, .int 1), (0, .ref tp)] := hl
      refine lv_iload_n hx hb dX6_advance_88 rfl (lv_at hl 0 rfl) ?_
      refine lv_if_eq (tgt := 134) hx hb dX6_advance_89 (by decide) (fun c_386 => absurd c_386 (by decide)) (fun c_386 => ?_)
      refine lv_aload_n hx hb dX6_advance_92 rfl (lv_at hl 1 rfl) ?_
      refine va_get (D := D) (ci := 6) (v := .int (nI e9_371)) (C := RX6) (T := TX6) (N := 5) hx hb hts hin6 hown hK hP ktp e_376 rfl 3 (by decide) (hts (.fieldLink RX6 19 "HoneyHouse$Tape" "end" "I") (List.mem_of_getElem? (i := 1) rfl)) (fun _ h9 => h9) rfl dX6_advance_93 ?_
      refine lv_aload_n hx hb dX6_advance_96 rfl (lv_at hl 1 rfl) ?_
      refine va_get (D := D) (ci := 6) (v := .int (nI tl)) (C := RX6) (T := TX6) (N := 5) hx hb hts hin6 hown hK hP ktp e_376 rfl 0 (by decide) (hts (.fieldLink RX6 15 "HoneyHouse$Tape" "length" "I") (List.mem_of_getElem? (i := 2) rfl)) (fun _ h9 => h9) rfl dX6_advance_97 ?_
      refine lv_icmp_ge (tgt := 134) hx hb dX6_advance_100 (by decide) (fun c_387 => ?_) (fun c_387 => ?_)
      · have d_388 := n_le (a := tl) (b := e9_371) (by omega) (by omega) c_387
        exact W.vret hx hb hr (fun t ht hW => ⟨⟨(), rfl, trivial, ws_373, tys, hsm, htx, by rw [ht]; exact hP, va_K.moved hW.alike hK, hD, ⟨k_255, a_2, e9_371, by omega, by omega, by omega, e_376⟩⟩, hS.F ht⟩) hS.2.2 dX6_advance_134
      have d_389 := n_nle (a := tl) (b := e9_371) (by omega) (by omega) c_387
      refine lv_aload_n hx hb dX6_advance_103 rfl (lv_at hl 1 rfl) ?_
      refine lv_aload_n hx hb dX6_advance_104 rfl (lv_at hl 1 rfl) ?_
      refine va_get (D := D) (ci := 6) (v := .int (nI e9_371)) (C := RX6) (T := TX6) (N := 5) hx hb hts hin6 hown hK hP ktp e_376 rfl 3 (by decide) (hts (.fieldLink RX6 19 "HoneyHouse$Tape" "end" "I") (List.mem_of_getElem? (i := 1) rfl)) (fun _ h9 => h9) rfl dX6_advance_105 ?_
      refine vp_callSi (W.runV (As := [.int (nI e9_371)]) (rest := []) ⟨hx, hb, hml, hown, hts⟩ (s_byteAt l D ws_373 tys tp ktp tl (nI k_255) (nI a_2) (nI e9_371) bb kbb cbb tbb f_385 (nI e9_371) e_376 e_384 ubb) (cwV 1 hts gX6_advance_X6_byteAt rfl rfl rfl (by decide +kernel) ⟨Nat.le_of_ble_eq_true rfl, Nat.le_of_ble_eq_true rfl⟩) ⟨fun a U g mk q => ⟨q.1, q.2.1, va_K.moved (u := U) (U := U.calling g mk a) (Vm.Alike.refl U.vm) q.2.2⟩, va_recv hK hP (ci := 6) (q0 := ktp) rfl e_376, fun U hU hW => ⟨rfl, by rw [hU]; exact hP, va_K.moved hW.alike hK⟩⟩ rfl rfl hl.1 rfl (lv_room (Nat.le_of_ble_eq_true rfl)) dX6_advance_108 ⟨Nat.le_of_ble_eq_true rfl, Nat.le_of_ble_eq_true rfl⟩) (fun r_390 k_391 => ?_)
      refine vp_callSi (W.runS (As := [.int r_390]) (rest := []) ⟨hx, hb, hml, hown, hts⟩ (s_kindOf l r_390) (va_cwS 1 hts gX6_advance_X6_kindOf rfl rfl rfl (by decide +kernel) ⟨Nat.le_of_ble_eq_true rfl, Nat.le_of_ble_eq_true rfl⟩) ⟨fun a U g mk q => q, fun U hU hW => ⟨rfl, trivial⟩⟩ rfl rfl hl.1 rfl (lv_room (Nat.le_of_ble_eq_true rfl)) dX6_advance_111 ⟨Nat.le_of_ble_eq_true rfl, Nat.le_of_ble_eq_true rfl⟩) (fun r_392 k_393 => ?_)
      obtain ⟨hk_394, k_395, hk_396, rfl⟩ := k_393
      refine lv_aload_n hx hb dX6_advance_114 rfl (lv_at hl 1 rfl) ?_
      refine va_get (D := D) (ci := 6) (v := .int (nI k_255)) (C := RX6) (T := TX6) (N := 5) hx hb hts hin6 hown hK hP ktp e_376 rfl 1 (by decide) (hts (.fieldLink RX6 35 "HoneyHouse$Tape" "kind" "I") (List.mem_of_getElem? (i := 4) rfl)) (fun _ h9 => h9) rfl dX6_advance_115 ?_
      refine lv_icmp_ne (tgt := 134) hx hb dX6_advance_118 (by decide) (fun c_397 => ?_) (fun c_397 => ?_)
      · have d_398 := n_ne (a := k_395) (b := k_255) (by omega) (by omega) c_397
        exact W.vret hx hb hr (fun t ht hW => ⟨⟨(), rfl, trivial, ws_373, tys, hsm, htx, by rw [ht]; exact hP, va_K.moved hW.alike hK, hD, ⟨k_255, a_2, e9_371, by omega, by omega, by omega, e_376⟩⟩, hS.F ht⟩) hS.2.2 dX6_advance_134
      have d_399 := n_eq (a := k_395) (b := k_255) (by omega) (by omega) c_397
      refine lv_aload_n hx hb dX6_advance_121 rfl (lv_at hl 1 rfl) ?_
      refine lv_dup hx hb dX6_advance_122 rfl ?_
      refine va_get (D := D) (ci := 6) (v := .int (nI e9_371)) (C := RX6) (T := TX6) (N := 5) hx hb hts hin6 hown hK hP ktp e_376 rfl 3 (by decide) (hts (.fieldLink RX6 19 "HoneyHouse$Tape" "end" "I") (List.mem_of_getElem? (i := 1) rfl)) (fun _ h9 => h9) rfl dX6_advance_123 ?_
      refine lv_iconst (v := 1) hx hb dX6_advance_126 (by decide) ?_
      refine lv_iadd hx hb dX6_advance_127 ?_
      refine tp_i (y := nI (e9_371 + 1)) (nI_add e9_371 1) ?_
      refine va_put (D := D) (ci := 6) (v := .int (nI (e9_371 + 1))) (ty := .int) (C := RX6) (T := TX6) (N := 5) hx hb hts hin6 tyX6 tyX6_ok nmX6 hown hK hP hD hS ktp e_376 rfl 3 (by decide) (hts (.fieldLink RX6 19 "HoneyHouse$Tape" "end" "I") (List.mem_of_getElem? (i := 1) rfl)) (fun _ h9 => h9) rfl (tyX6_ok 3 (by decide)) rfl rfl (Nat.le_of_ble_eq_true rfl) dX6_advance_128 (fun H locs hP hD hS => ?_)
      have hP : va_P D vwCl (ws_373.set ktp (tp, .inr (6, [.int (nI tl), .int (nI k_255), .int (nI a_2), .int (nI (e9_371 + 1)), .ref bb]))) H := hP
      have hD : va_D A (ws_373.set ktp (tp, .inr (6, [.int (nI tl), .int (nI k_255), .int (nI a_2), .int (nI (e9_371 + 1)), .ref bb]))) := hD
      have hm_401 : sm ρ [6] ws_373 (ws_373.set ktp (tp, .inr (6, [.int (nI tl), .int (nI k_255), .int (nI a_2), .int (nI (e9_371 + 1)), .ref bb]))) := sm.flds e_376 (smF.c (smV.rf _) (smF.c (smV.rf _) (smF.c (smV.rf _) (smF.c (smV.i _ _) (smF.c (smV.rf _) (rfl)))))) (List.mem_singleton.mpr rfl) w_ktp
      have e_402 : (ws_373.set ktp (tp, .inr (6, [.int (nI tl), .int (nI k_255), .int (nI a_2), .int (nI (e9_371 + 1)), .ref bb])))[ktp]? = some (tp, .inr (6, [.int (nI tl), .int (nI k_255), .int (nI a_2), .int (nI (e9_371 + 1)), .ref bb])) := wset_self e_376
      generalize ws_373.set ktp (tp, .inr (6, [.int (nI tl), .int (nI k_255), .int (nI a_2), .int (nI (e9_371 + 1)), .ref bb])) = ws_400 at hP hD hm_401 e_402
      obtain ⟨f_404, e_403⟩ := hm_401.arrI e_384
      have hsm := hsm.tr (hm_401.mono (by decide))
      have hlp_6 := hlp_6.tr (hm_401.mono (by decide))
      have hlp_375 := hlp_375.tr (hm_401.mono (by decide))
      refine lv_goto (tgt := 88) hx hb dX6_advance_131 (by decide) ?_
      exact ih_370 (e9_371 + 1) ws_400 _ _ ls (by show tl - (e9_371 + 1) < tl - e9_371; omega) ⟨hlp_375, e_402, (show a_2 ≤ (e9_371 + 1) ∧ (e9_371 + 1) ≤ tl from by omega)⟩ hP hD hS (lv_sub hl [0, 1] rfl)
    have d_405 := n_ne (a := k_255) (b := 1) (by omega) (by omega) c_368
    refine lv_aload_n hx hb dX6_advance_74 rfl (lv_at hl 1 rfl) ?_
    refine va_get (D := D) (ci := 6) (v := .int (nI k_255)) (C := RX6) (T := TX6) (N := 5) hx hb hts hin6 hown hK hP ktp e_365 rfl 1 (by decide) (hts (.fieldLink RX6 35 "HoneyHouse$Tape" "kind" "I") (List.mem_of_getElem? (i := 4) rfl)) (fun _ h9 => h9) rfl dX6_advance_75 ?_
    refine lv_iconst (v := 2) hx hb dX6_advance_78 (by decide) ?_
    refine lv_icmp_ne (tgt := 86) hx hb dX6_advance_79 (by decide) (fun c_406 => ?_) (fun c_406 => ?_)
    · have d_407 := n_ne (a := k_255) (b := 2) (by omega) (by omega) c_406
      refine lv_iconst (v := 0) hx hb dX6_advance_86 (by decide) ?_
      refine lv_istore_n (lv' := [(2, .int 0), (1, .int (nI a_2)), (0, .ref tp)]) hx hb dX6_advance_87 rfl hl (by decide) rfl (fun ls hl => ?_)
      refine lp_V (nL := 3) (σ := Nat) (lv := fun x9 => [(2, .int 0), (0, .ref tp)]) (μ := fun x9 => tl - x9) (J := fun x9 ws9 => sm ρ [6] ws_363 ws9 ∧ (ws9[ktp]? = some (tp, .inr (6, [.int (nI tl), .int (nI k_255), .int (nI a_2), .int (nI x9), .ref bb]))) ∧ (a_2 ≤ x9 ∧ x9 ≤ tl)) (fun x9 ws_411 H locs ls hj hP hD hS hl ih_408 => ?_) a_2 ws_363 _ _ ls ⟨sm.rf _, e_365, (show a_2 ≤ a_2 ∧ a_2 ≤ tl from by omega)⟩ hP hD hS (lv_sub hl [0, 2] rfl)
      obtain ⟨e9_409, hx9⟩ : ∃ y9, y9 = x9 := ⟨_, rfl⟩
      subst hx9
      replace hj : sm ρ [6] ws_363 ws_411 ∧ (ws_411[ktp]? = some (tp, .inr (6, [.int (nI tl), .int (nI k_255), .int (nI a_2), .int (nI e9_409), .ref bb]))) ∧ (a_2 ≤ e9_409 ∧ e9_409 ≤ tl) := hj
      obtain ⟨hm_412, e_414, he_410⟩ := hj
      obtain ⟨g_416, e_415, h_417⟩ := hm_412.obj e_365
      obtain ⟨z_418, z_419, z_420, z_421, rfl⟩ := smX6 h_417
      obtain ⟨f_423, e_422⟩ := hm_412.arrI e_366
      have hsm := hsm.tr (hm_412.mono (by decide))
      have hlp_6 := hlp_6.tr (hm_412.mono (by decide))
      have hlp_413 := hm_412
      have hl : lv_has ls 3 [(2, .int 0), (0, .ref tp)] := hl
      refine lv_iload_n hx hb dX6_advance_88 rfl (lv_at hl 0 rfl) ?_
      refine lv_if_eq (tgt := 134) hx hb dX6_advance_89 (by decide) (fun c_424 => ?_) (fun c_424 => absurd (by decide) c_424)
      exact W.vret hx hb hr (fun t ht hW => ⟨⟨(), rfl, trivial, ws_411, tys, hsm, htx, by rw [ht]; exact hP, va_K.moved hW.alike hK, hD, ⟨k_255, a_2, e9_409, by omega, by omega, by omega, e_414⟩⟩, hS.F ht⟩) hS.2.2 dX6_advance_134
    have d_425 := n_eq (a := k_255) (b := 2) (by omega) (by omega) c_406
    refine lv_iconst (v := 1) hx hb dX6_advance_82 (by decide) ?_
    refine lv_goto (tgt := 87) hx hb dX6_advance_83 (by decide) ?_
    refine lv_istore_n (lv' := [(2, .int 1), (1, .int (nI a_2)), (0, .ref tp)]) hx hb dX6_advance_87 rfl hl (by decide) rfl (fun ls hl => ?_)
    refine lp_V (nL := 3) (σ := Nat) (lv := fun x9 => [(2, .int 1), (0, .ref tp)]) (μ := fun x9 => tl - x9) (J := fun x9 ws9 => sm ρ [6] ws_363 ws9 ∧ (ws9[ktp]? = some (tp, .inr (6, [.int (nI tl), .int (nI k_255), .int (nI a_2), .int (nI x9), .ref bb]))) ∧ (a_2 ≤ x9 ∧ x9 ≤ tl)) (fun x9 ws_429 H locs ls hj hP hD hS hl ih_426 => ?_) a_2 ws_363 _ _ ls ⟨sm.rf _, e_365, (show a_2 ≤ a_2 ∧ a_2 ≤ tl from by omega)⟩ hP hD hS (lv_sub hl [0, 2] rfl)
    obtain ⟨e9_427, hx9⟩ : ∃ y9, y9 = x9 := ⟨_, rfl⟩
    subst hx9
    replace hj : sm ρ [6] ws_363 ws_429 ∧ (ws_429[ktp]? = some (tp, .inr (6, [.int (nI tl), .int (nI k_255), .int (nI a_2), .int (nI e9_427), .ref bb]))) ∧ (a_2 ≤ e9_427 ∧ e9_427 ≤ tl) := hj
    obtain ⟨hm_430, e_432, he_428⟩ := hj
    obtain ⟨g_434, e_433, h_435⟩ := hm_430.obj e_365
    obtain ⟨z_436, z_437, z_438, z_439, rfl⟩ := smX6 h_435
    obtain ⟨f_441, e_440⟩ := hm_430.arrI e_366
    have hsm := hsm.tr (hm_430.mono (by decide))
    have hlp_6 := hlp_6.tr (hm_430.mono (by decide))
    have hlp_431 := hm_430
    have hl : lv_has ls 3 [(2, .int 1), (0, .ref tp)] := hl
    refine lv_iload_n hx hb dX6_advance_88 rfl (lv_at hl 0 rfl) ?_
    refine lv_if_eq (tgt := 134) hx hb dX6_advance_89 (by decide) (fun c_442 => absurd c_442 (by decide)) (fun c_442 => ?_)
    refine lv_aload_n hx hb dX6_advance_92 rfl (lv_at hl 1 rfl) ?_
    refine va_get (D := D) (ci := 6) (v := .int (nI e9_427)) (C := RX6) (T := TX6) (N := 5) hx hb hts hin6 hown hK hP ktp e_432 rfl 3 (by decide) (hts (.fieldLink RX6 19 "HoneyHouse$Tape" "end" "I") (List.mem_of_getElem? (i := 1) rfl)) (fun _ h9 => h9) rfl dX6_advance_93 ?_
    refine lv_aload_n hx hb dX6_advance_96 rfl (lv_at hl 1 rfl) ?_
    refine va_get (D := D) (ci := 6) (v := .int (nI tl)) (C := RX6) (T := TX6) (N := 5) hx hb hts hin6 hown hK hP ktp e_432 rfl 0 (by decide) (hts (.fieldLink RX6 15 "HoneyHouse$Tape" "length" "I") (List.mem_of_getElem? (i := 2) rfl)) (fun _ h9 => h9) rfl dX6_advance_97 ?_
    refine lv_icmp_ge (tgt := 134) hx hb dX6_advance_100 (by decide) (fun c_443 => ?_) (fun c_443 => ?_)
    · have d_444 := n_le (a := tl) (b := e9_427) (by omega) (by omega) c_443
      exact W.vret hx hb hr (fun t ht hW => ⟨⟨(), rfl, trivial, ws_429, tys, hsm, htx, by rw [ht]; exact hP, va_K.moved hW.alike hK, hD, ⟨k_255, a_2, e9_427, by omega, by omega, by omega, e_432⟩⟩, hS.F ht⟩) hS.2.2 dX6_advance_134
    have d_445 := n_nle (a := tl) (b := e9_427) (by omega) (by omega) c_443
    refine lv_aload_n hx hb dX6_advance_103 rfl (lv_at hl 1 rfl) ?_
    refine lv_aload_n hx hb dX6_advance_104 rfl (lv_at hl 1 rfl) ?_
    refine va_get (D := D) (ci := 6) (v := .int (nI e9_427)) (C := RX6) (T := TX6) (N := 5) hx hb hts hin6 hown hK hP ktp e_432 rfl 3 (by decide) (hts (.fieldLink RX6 19 "HoneyHouse$Tape" "end" "I") (List.mem_of_getElem? (i := 1) rfl)) (fun _ h9 => h9) rfl dX6_advance_105 ?_
    refine vp_callSi (W.runV (As := [.int (nI e9_427)]) (rest := []) ⟨hx, hb, hml, hown, hts⟩ (s_byteAt l D ws_429 tys tp ktp tl (nI k_255) (nI a_2) (nI e9_427) bb kbb cbb tbb f_441 (nI e9_427) e_432 e_440 ubb) (cwV 1 hts gX6_advance_X6_byteAt rfl rfl rfl (by decide +kernel) ⟨Nat.le_of_ble_eq_true rfl, Nat.le_of_ble_eq_true rfl⟩) ⟨fun a U g mk q => ⟨q.1, q.2.1, va_K.moved (u := U) (U := U.calling g mk a) (Vm.Alike.refl U.vm) q.2.2⟩, va_recv hK hP (ci := 6) (q0 := ktp) rfl e_432, fun U hU hW => ⟨rfl, by rw [hU]; exact hP, va_K.moved hW.alike hK⟩⟩ rfl rfl hl.1 rfl (lv_room (Nat.le_of_ble_eq_true rfl)) dX6_advance_108 ⟨Nat.le_of_ble_eq_true rfl, Nat.le_of_ble_eq_true rfl⟩) (fun r_446 k_447 => ?_)
    refine vp_callSi (W.runS (As := [.int r_446]) (rest := []) ⟨hx, hb, hml, hown, hts⟩ (s_kindOf l r_446) (va_cwS 1 hts gX6_advance_X6_kindOf rfl rfl rfl (by decide +kernel) ⟨Nat.le_of_ble_eq_true rfl, Nat.le_of_ble_eq_true rfl⟩) ⟨fun a U g mk q => q, fun U hU hW => ⟨rfl, trivial⟩⟩ rfl rfl hl.1 rfl (lv_room (Nat.le_of_ble_eq_true rfl)) dX6_advance_111 ⟨Nat.le_of_ble_eq_true rfl, Nat.le_of_ble_eq_true rfl⟩) (fun r_448 k_449 => ?_)
    obtain ⟨hk_450, k_451, hk_452, rfl⟩ := k_449
    refine lv_aload_n hx hb dX6_advance_114 rfl (lv_at hl 1 rfl) ?_
    refine va_get (D := D) (ci := 6) (v := .int (nI k_255)) (C := RX6) (T := TX6) (N := 5) hx hb hts hin6 hown hK hP ktp e_432 rfl 1 (by decide) (hts (.fieldLink RX6 35 "HoneyHouse$Tape" "kind" "I") (List.mem_of_getElem? (i := 4) rfl)) (fun _ h9 => h9) rfl dX6_advance_115 ?_
    refine lv_icmp_ne (tgt := 134) hx hb dX6_advance_118 (by decide) (fun c_453 => ?_) (fun c_453 => ?_)
    · have d_454 := n_ne (a := k_451) (b := k_255) (by omega) (by omega) c_453
      exact W.vret hx hb hr (fun t ht hW => ⟨⟨(), rfl, trivial, ws_429, tys, hsm, htx, by rw [ht]; exact hP, va_K.moved hW.alike hK, hD, ⟨k_255, a_2, e9_427, by omega, by omega, by omega, e_432⟩⟩, hS.F ht⟩) hS.2.2 dX6_advance_134
    have d_455 := n_eq (a := k_451) (b := k_255) (by omega) (by omega) c_453
    refine lv_aload_n hx hb dX6_advance_121 rfl (lv_at hl 1 rfl) ?_
    refine lv_dup hx hb dX6_advance_122 rfl ?_
    refine va_get (D := D) (ci := 6) (v := .int (nI e9_427)) (C := RX6) (T := TX6) (N := 5) hx hb hts hin6 hown hK hP ktp e_432 rfl 3 (by decide) (hts (.fieldLink RX6 19 "HoneyHouse$Tape" "end" "I") (List.mem_of_getElem? (i := 1) rfl)) (fun _ h9 => h9) rfl dX6_advance_123 ?_
    refine lv_iconst (v := 1) hx hb dX6_advance_126 (by decide) ?_
    refine lv_iadd hx hb dX6_advance_127 ?_
    refine tp_i (y := nI (e9_427 + 1)) (nI_add e9_427 1) ?_
    refine va_put (D := D) (ci := 6) (v := .int (nI (e9_427 + 1))) (ty := .int) (C := RX6) (T := TX6) (N := 5) hx hb hts hin6 tyX6 tyX6_ok nmX6 hown hK hP hD hS ktp e_432 rfl 3 (by decide) (hts (.fieldLink RX6 19 "HoneyHouse$Tape" "end" "I") (List.mem_of_getElem? (i := 1) rfl)) (fun _ h9 => h9) rfl (tyX6_ok 3 (by decide)) rfl rfl (Nat.le_of_ble_eq_true rfl) dX6_advance_128 (fun H locs hP hD hS => ?_)
    have hP : va_P D vwCl (ws_429.set ktp (tp, .inr (6, [.int (nI tl), .int (nI k_255), .int (nI a_2), .int (nI (e9_427 + 1)), .ref bb]))) H := hP
    have hD : va_D A (ws_429.set ktp (tp, .inr (6, [.int (nI tl), .int (nI k_255), .int (nI a_2), .int (nI (e9_427 + 1)), .ref bb]))) := hD
    have hm_457 : sm ρ [6] ws_429 (ws_429.set ktp (tp, .inr (6, [.int (nI tl), .int (nI k_255), .int (nI a_2), .int (nI (e9_427 + 1)), .ref bb]))) := sm.flds e_432 (smF.c (smV.rf _) (smF.c (smV.rf _) (smF.c (smV.rf _) (smF.c (smV.i _ _) (smF.c (smV.rf _) (rfl)))))) (List.mem_singleton.mpr rfl) w_ktp
    have e_458 : (ws_429.set ktp (tp, .inr (6, [.int (nI tl), .int (nI k_255), .int (nI a_2), .int (nI (e9_427 + 1)), .ref bb])))[ktp]? = some (tp, .inr (6, [.int (nI tl), .int (nI k_255), .int (nI a_2), .int (nI (e9_427 + 1)), .ref bb])) := wset_self e_432
    generalize ws_429.set ktp (tp, .inr (6, [.int (nI tl), .int (nI k_255), .int (nI a_2), .int (nI (e9_427 + 1)), .ref bb])) = ws_456 at hP hD hm_457 e_458
    obtain ⟨f_460, e_459⟩ := hm_457.arrI e_440
    have hsm := hsm.tr (hm_457.mono (by decide))
    have hlp_6 := hlp_6.tr (hm_457.mono (by decide))
    have hlp_431 := hlp_431.tr (hm_457.mono (by decide))
    refine lv_goto (tgt := 88) hx hb dX6_advance_131 (by decide) ?_
    exact ih_426 (e9_427 + 1) ws_456 _ _ ls (by show tl - (e9_427 + 1) < tl - e9_427; omega) ⟨hlp_431, e_458, (show a_2 ≤ (e9_427 + 1) ∧ (e9_427 + 1) ≤ tl from by omega)⟩ hP hD hS (lv_sub hl [0, 1] rfl)
  have d_461 := n_eq (a := k_241) (b := 3) (by omega) (by omega) c_243
  refine lv_iinc (v := nI (a_2 + 1)) (lv' := [(1, .int (nI (a_2 + 1))), (0, .ref tp)]) hx hb dX6_advance_25 hl (k := 0) rfl (nI_add a_2 1) (by decide) rfl (fun ls hl => ?_)
  refine lv_goto (tgt := 5) hx hb dX6_advance_28 (by decide) ?_
  exact ih_1 (a_2 + 1) ws_4 _ _ ls (by show tl - (a_2 + 1) < tl - a_2; omega) ⟨hlp_6, e_7, (show te ≤ (a_2 + 1) ∧ (a_2 + 1) ≤ tl from by omega)⟩ hP hD hS (lv_sub hl [0, 1] rfl)
set_option maxHeartbeats 4000000 in
set_option maxRecDepth 100000 in
theorem a_rewind (l : Launch) (D : va_G) (ρ : Nat → Nat) (ws : va_W) (tys : List (ClassId × FieldType)) (tp ktp tl : Nat) (x1 x2 x3 : Int32) (bb kbb : Nat) (cbb : ClassId) (tbb : Nat) (fbb : Nat → Int32) (sz : Nat) (htl : tl ≤ 400) (etp : ws[ktp]? = some (tp, .inr (6, [.int (nI tl), .int x1, .int x2, .int x3, .ref bb]))) (ebb : ws[kbb]? = some (bb, .inl (cbb, 400, .inl fbb))) (ubb : tys[tbb]? = some (cbb, .int)) (w_ktp : ρ ktp = 0) : Met l yX6_rewind wsX6_rewind ({ frames := 2, cells := 0, slots := 0, locals := 43 }) (va_Pc [.ref tp] (fun U => U.heap.size = sz ∧ va_P D vwCl ws U.heap ∧ va_K D vwCl tys U ∧ va_D (fun _ => True) ws)) (va_Qv (fun _ : Unit => True) (fun (_ : Unit) (t : State) => ∃ (ws' : va_W) (tys' : List (ClassId × FieldType)), sm ρ [6] ws ws' ∧ tyx tys tys' ∧ va_P D vwCl ws' t.heap ∧ va_K D vwCl tys' t ∧ va_D (va_A ws sz) ws' ∧ (∃ k s2 e2 : Nat, k ≤ 4 ∧ s2 ≤ e2 ∧ e2 ≤ tl ∧ ws'[ktp]? = some (tp, .inr (6, [.int (nI tl), .int (nI k), .int (nI s2), .int (nI e2), .ref bb])))) (va_A ws sz)) 0 0 (va_A ws sz) := by
  refine Met.ofW (cc := cX6_rewind) (maxL := 1) (ret := none) (by decide) rfl ?_
  intro p e s m args below meth c s₁ B hml hv
  obtain ⟨rfl, hsz, hP, hK, hD0⟩ := hv
  have hx := B.exec
  have hb := B.bytes
  have hr := B.returns
  have hts := atoms_spec (ws := wsX6_rewind) B.pre
  have hown : s.vm.findClass RX6 = some m.cls := findClass_of_methodNamed B.named
  have hlocks := B.notSynchronized
  subst hsz
  have hD := hD0.self (sz := s.heap.size)
  generalize hAe : va_A ws s.heap.size = A at hD ⊢
  have hA : ∀ q : Nat, s.heap.size ≤ q → A q := fun q h => by rw [← hAe]; exact Or.inr h
  have hS : va_S A s.heap s.heap [] := va_S.rf
  have hsm : sm ρ [6] ws ws := sm.rf ws
  have htx : tyx tys tys := tyx.rf tys
  have hin6 : ∀ w ∈ u_ws RX6 TX6 5, w ∈ wsX6_rewind := (fun _ h9 => List.mem_cons_of_mem _ ((List.mem_append_right _ h9)))
  have hl := lv_entry ([.ref tp]) (n := 1) (Nat.le_of_ble_eq_true rfl)
  rw [lg_entry_eq]
  generalize (lg_sl ([.ref tp]) ++ List.replicate (1 - (lg_sl ([.ref tp])).length) Slot.unset).toArray = ls at hl ⊢
  have hl : lv_has ls 1 [(0, .ref tp)] := hl
  refine lv_aload_n hx hb dX6_rewind_0 rfl (lv_at hl 0 rfl) ?_
  refine lv_iconst (v := 0) hx hb dX6_rewind_1 (by decide) ?_
  refine va_put (D := D) (ci := 6) (v := .int 0) (ty := .int) (C := RX6) (T := TX6) (N := 5) hx hb hts hin6 tyX6 tyX6_ok nmX6 hown hK hP hD hS ktp etp rfl 3 (by decide) (hts (.fieldLink RX6 19 "HoneyHouse$Tape" "end" "I") (List.mem_of_getElem? (i := 1) rfl)) (fun _ h9 => h9) rfl (tyX6_ok 3 (by decide)) rfl rfl (Nat.le_of_ble_eq_true rfl) dX6_rewind_2 (fun H locs hP hD hS => ?_)
  have hP : va_P D vwCl (ws.set ktp (tp, .inr (6, [.int (nI tl), .int x1, .int x2, .int 0, .ref bb]))) H := hP
  have hD : va_D A (ws.set ktp (tp, .inr (6, [.int (nI tl), .int x1, .int x2, .int 0, .ref bb]))) := hD
  have hm_2 : sm ρ [6] ws (ws.set ktp (tp, .inr (6, [.int (nI tl), .int x1, .int x2, .int 0, .ref bb]))) := sm.flds etp (smF.c (smV.rf _) (smF.c (smV.rf _) (smF.c (smV.rf _) (smF.c (smV.i _ _) (smF.c (smV.rf _) (rfl)))))) (List.mem_singleton.mpr rfl) w_ktp
  have e_3 : (ws.set ktp (tp, .inr (6, [.int (nI tl), .int x1, .int x2, .int 0, .ref bb])))[ktp]? = some (tp, .inr (6, [.int (nI tl), .int x1, .int x2, .int 0, .ref bb])) := wset_self etp
  generalize ws.set ktp (tp, .inr (6, [.int (nI tl), .int x1, .int x2, .int 0, .ref bb])) = ws_1 at hP hD hm_2 e_3
  obtain ⟨f_5, e_4⟩ := hm_2.arrI ebb
  have hsm := hsm.tr (hm_2.mono (by decide))
  refine lv_aload_n hx hb dX6_rewind_5 rfl (lv_at hl 0 rfl) ?_
  have hFc := free_all hD hS hA
  refine va_callv (va_runV (As := []) (rest := []) ⟨hx, hb, hml, hown, hts⟩ (a_advance l D ρ ws_1 tys tp ktp tl 0 x1 x2 bb kbb cbb tbb f_5 H.size (by omega) (by omega) e_3 e_4 ubb w_ktp) (cwV 0 hts gX6_rewind_X6_advance rfl rfl rfl (by decide +kernel) ⟨Nat.le_of_ble_eq_true rfl, Nat.le_of_ble_eq_true rfl⟩) ⟨fun a U g mk q => by obtain ⟨q0, q1, qP, qK, qD⟩ := q; exact ⟨q0, q1, qP, va_K.moved (u := U) (U := U.calling g mk a) (Vm.Alike.refl U.vm) qK, qD⟩, va_recv hK hP (ci := 6) (q0 := ktp) rfl e_3, fun U hU hW => ⟨rfl, by rw [hU], by rw [hU]; exact hP, va_K.moved hW.alike hK, hD.weaken (fun _ _ _ _ => trivial)⟩⟩ rfl rfl hl.1 rfl (lv_room (Nat.le_of_ble_eq_true rfl)) dX6_rewind_6 ⟨Nat.le_of_ble_eq_true rfl, Nat.le_of_ble_eq_true rfl⟩) hS (fun q _ h => hFc q h) hFc (fun u t H1 locs ht hvm w_7 hB hz1 hk1 hS => ?_)
  obtain ⟨ws_8, ty_9, hm_10, ht_12, hP1, hK1, hD1, hx_11⟩ := hB
  rw [ht] at hP1
  have hK := va_K.moved hvm.symm hK1
  have hD := hD1.weaken (fun _ _ _ h => hFc _ h)
  generalize H1 = H at hP1 hS ⊢
  have hP := hP1
  obtain ⟨g_14, e_13, h_15⟩ := hm_10.obj e_3
  obtain ⟨z_16, z_17, z_18, z_19, rfl⟩ := smX6 h_15
  obtain ⟨f_21, e_20⟩ := hm_10.arrI e_4
  have u_22 := ht_12 _ _ ubb
  have hsm := hsm.tr (hm_10.mono (by decide))
  have htx := htx.tr ht_12
  obtain ⟨k_23, s_24, e_25, h_26, h_27, h_28, e_29⟩ := hx_11
  exact W.vret hx hb hr (fun t ht hW => ⟨⟨(), rfl, trivial, ws_8, ty_9, hsm, htx, by rw [ht]; exact hP, va_K.moved hW.alike hK, hD, ⟨k_23, s_24, e_25, by omega, by omega, by omega, e_29⟩⟩, hS.F ht⟩) hS.2.2 dX6_rewind_9
set_option maxHeartbeats 4000000 in
set_option maxRecDepth 100000 in
theorem s_isByte (l : Launch) (D : va_G) (ws : va_W) (tys : List (ClassId × FieldType)) (tp ktp tl : Nat) (x1 x2 x3 : Int32) (bb kbb : Nat) (cbb : ClassId) (tbb : Nat) (fbb : Nat → Int32) (a1 : Int32) (etp : ws[ktp]? = some (tp, .inr (6, [.int (nI tl), .int x1, .int x2, .int x3, .ref bb]))) (ebb : ws[kbb]? = some (bb, .inl (cbb, 400, .inl fbb))) (ubb : tys[tbb]? = some (cbb, .int)) : Met l yX6_isByte wsX6_isByte ({ frames := 1, cells := 0, slots := 0, locals := 21 }) (va_Pc [.ref tp, .int a1] (fun U => va_P D vwCl ws U.heap ∧ va_K D vwCl tys U)) (vp_Si (fun r => r = 0 ∨ r = 1)) 0 0 (fun _ => False) := by
  refine Met.ofW (cc := cX6_isByte) (maxL := 2) (ret := (some .boolean)) (by decide) rfl ?_
  intro p e s m args below meth c s₁ B hml hv
  obtain ⟨rfl, hP, hK⟩ := hv
  have hx := B.exec
  have hb := B.bytes
  have hr := B.returns
  have hts := atoms_spec (ws := wsX6_isByte) B.pre
  have hown : s.vm.findClass RX6 = some m.cls := findClass_of_methodNamed B.named
  have hlocks := B.notSynchronized
  have hin6 : ∀ w ∈ u_ws RX6 TX6 5, w ∈ wsX6_isByte := (fun _ h9 => List.mem_cons_of_mem _ ((List.mem_append_right _ h9)))
  have hl := lv_entry ([.ref tp, .int a1]) (n := 2) (Nat.le_of_ble_eq_true rfl)
  rw [lg_entry_eq]
  generalize (lg_sl ([.ref tp, .int a1]) ++ List.replicate (2 - (lg_sl ([.ref tp, .int a1])).length) Slot.unset).toArray = ls at hl ⊢
  have hl : lv_has ls 2 [(0, .ref tp), (1, .int a1)] := hl
  refine lv_aload_n hx hb dX6_isByte_0 rfl (lv_at hl 0 rfl) ?_
  refine va_get (D := D) (ci := 6) (v := .int x1) (C := RX6) (T := TX6) (N := 5) hx hb hts hin6 hown hK hP ktp etp rfl 1 (by decide) (hts (.fieldLink RX6 35 "HoneyHouse$Tape" "kind" "I") (List.mem_of_getElem? (i := 1) rfl)) (fun _ h9 => h9) rfl dX6_isByte_1 ?_
  refine lv_iconst (v := 4) hx hb dX6_isByte_4 (by decide) ?_
  refine lv_icmp_ne (tgt := 24) hx hb dX6_isByte_5 (by decide) (fun c_1 => ?_) (fun c_1 => ?_)
  · refine lv_iconst (v := 0) hx hb dX6_isByte_24 (by decide) ?_
    exact W.zret (v := 0) hx hb hr rfl (fun t ht hW => ⟨0, rfl, Or.inl rfl, ht⟩) (fun _ h9 => by cases h9) dX6_isByte_25
  refine lv_aload_n hx hb dX6_isByte_8 rfl (lv_at hl 0 rfl) ?_
  refine lv_aload_n hx hb dX6_isByte_9 rfl (lv_at hl 0 rfl) ?_
  refine va_get (D := D) (ci := 6) (v := .int x2) (C := RX6) (T := TX6) (N := 5) hx hb hts hin6 hown hK hP ktp etp rfl 2 (by decide) (hts (.fieldLink RX6 32 "HoneyHouse$Tape" "start" "I") (List.mem_of_getElem? (i := 2) rfl)) (fun _ h9 => h9) rfl dX6_isByte_10 ?_
  refine vp_callSi (W.runV (As := [.int x2]) (rest := []) ⟨hx, hb, hml, hown, hts⟩ (s_byteAt l D ws tys tp ktp tl x1 x2 x3 bb kbb cbb tbb fbb x2 etp ebb ubb) (cwV 1 hts gX6_isByte_X6_byteAt rfl rfl rfl (by decide +kernel) ⟨Nat.le_of_ble_eq_true rfl, Nat.le_of_ble_eq_true rfl⟩) ⟨fun a U g mk q => ⟨q.1, q.2.1, va_K.moved (u := U) (U := U.calling g mk a) (Vm.Alike.refl U.vm) q.2.2⟩, va_recv hK hP (ci := 6) (q0 := ktp) rfl etp, fun U hU hW => ⟨rfl, by rw [hU]; exact hP, va_K.moved hW.alike hK⟩⟩ rfl rfl hl.1 rfl (lv_room (Nat.le_of_ble_eq_true rfl)) dX6_isByte_13 ⟨Nat.le_of_ble_eq_true rfl, Nat.le_of_ble_eq_true rfl⟩) (fun r_2 k_3 => ?_)
  refine lv_iload_n hx hb dX6_isByte_16 rfl (lv_at hl 1 rfl) ?_
  refine lv_icmp_ne (tgt := 24) hx hb dX6_isByte_17 (by decide) (fun c_4 => ?_) (fun c_4 => ?_)
  · refine lv_iconst (v := 0) hx hb dX6_isByte_24 (by decide) ?_
    exact W.zret (v := 0) hx hb hr rfl (fun t ht hW => ⟨0, rfl, Or.inl rfl, ht⟩) (fun _ h9 => by cases h9) dX6_isByte_25
  refine lv_iconst (v := 1) hx hb dX6_isByte_20 (by decide) ?_
  refine lv_goto (tgt := 25) hx hb dX6_isByte_21 (by decide) ?_
  exact W.zret (v := 1) hx hb hr rfl (fun t ht hW => ⟨1, rfl, Or.inr rfl, ht⟩) (fun _ h9 => by cases h9) dX6_isByte_25
set_option maxHeartbeats 4000000 in
set_option maxRecDepth 100000 in
theorem a_isWord (l : Launch) (D : va_G) (ρ : Nat → Nat) (ws : va_W) (tys : List (ClassId × FieldType)) (adK adV : Nat → Nat) (fo : Option Nat) (i9 : Nat) (tp ktp tl : Nat) (x1 x2 x3 : Int32) (bb kbb : Nat) (cbb : ClassId) (tbb : Nat) (fbb : Nat → Int32) (sz : Nat) (hi9 : i9 < 11) (etp : ws[ktp]? = some (tp, .inr (6, [.int (nI tl), .int x1, .int x2, .int x3, .ref bb]))) (ebb : ws[kbb]? = some (bb, .inl (cbb, 400, .inl fbb))) (ubb : tys[tbb]? = some (cbb, .int)) : Met l yX6_isWord wsX6_isWord ({ frames := 4, cells := 0, slots := 0, locals := 85 }) (va_Pc [.ref tp, .ref (adK i9)] (fun U => U.heap.size = sz ∧ va_P D vwCl ws U.heap ∧ va_K D vwCl tys U ∧ va_D (fun _ => True) ws ∧ SZ adK adV fo (va_A ws sz) U U.heap)) (va_Qi (fun (r : Int32) (_ : Unit) => r = 0 ∨ r = 1) (fun (_ : Unit) (t : State) => ∃ (ws' : va_W) (tys' : List (ClassId × FieldType)), sm ρ [] ws ws' ∧ tyx tys tys' ∧ va_P D vwCl ws' t.heap ∧ va_K D vwCl tys' t ∧ va_D (va_A ws sz) ws' ∧ (True)) (va_A ws sz)) 0 0 (va_A ws sz) := by
  refine Met.ofW (cc := cX6_isWord) (maxL := 3) (ret := (some .boolean)) (by decide) rfl ?_
  intro p e s m args below meth c s₁ B hml hv
  obtain ⟨rfl, hsz, hP, hK, hD0, hsz9⟩ := hv
  have hx := B.exec
  have hb := B.bytes
  have hr := B.returns
  have hts := atoms_spec (ws := wsX6_isWord) B.pre
  have hown : s.vm.findClass RX6 = some m.cls := findClass_of_methodNamed B.named
  have hlocks := B.notSynchronized
  subst hsz
  have hD := hD0.self (sz := s.heap.size)
  generalize hAe : va_A ws s.heap.size = A at hD hsz9 ⊢
  have hA : ∀ q : Nat, s.heap.size ≤ q → A q := fun q h => by rw [← hAe]; exact Or.inr h
  have hS : va_S A s.heap s.heap [] := va_S.rf
  have hsm : sm ρ [] ws ws := sm.rf ws
  have htx : tyx tys tys := tyx.rf tys
  have hin6 : ∀ w ∈ u_ws RX6 TX6 5, w ∈ wsX6_isWord := (fun _ h9 => List.mem_cons_of_mem _ ((List.mem_append_right _ h9)))
  have hl := lv_entry ([.ref tp, .ref (adK i9)]) (n := 3) (Nat.le_of_ble_eq_true rfl)
  rw [lg_entry_eq]
  generalize (lg_sl ([.ref tp, .ref (adK i9)]) ++ List.replicate (3 - (lg_sl ([.ref tp, .ref (adK i9)])).length) Slot.unset).toArray = ls at hl ⊢
  have hl : lv_has ls 3 [(0, .ref tp), (1, .ref (adK i9))] := hl
  have hle9 := lenS_le i9 hi9
  refine lv_aload_n hx hb dX6_isWord_0 rfl (lv_at hl 0 rfl) ?_
  refine va_get (D := D) (ci := 6) (v := .int x1) (C := RX6) (T := TX6) (N := 5) hx hb hts hin6 hown hK hP ktp etp rfl 1 (by decide) (hts (.fieldLink RX6 35 "HoneyHouse$Tape" "kind" "I") (List.mem_of_getElem? (i := 1) rfl)) (fun _ h9 => h9) rfl dX6_isWord_1 ?_
  refine lv_iconst (v := 1) hx hb dX6_isWord_4 (by decide) ?_
  refine lv_icmp_ne (tgt := 24) hx hb dX6_isWord_5 (by decide) (fun c_1 => ?_) (fun c_1 => ?_)
  · refine lv_iconst (v := 0) hx hb dX6_isWord_24 (by decide) ?_
    exact W.zret (v := 0) hx hb hr rfl (fun t ht hW => ⟨⟨0, (), rfl, Or.inl rfl, ws, tys, hsm, htx, by rw [ht]; exact hP, va_K.moved hW.alike hK, hD, trivial⟩, hS.F ht⟩) hS.2.2 dX6_isWord_25
  refine lv_aload_n hx hb dX6_isWord_8 rfl (lv_at hl 0 rfl) ?_
  refine va_get (D := D) (ci := 6) (v := .int x3) (C := RX6) (T := TX6) (N := 5) hx hb hts hin6 hown hK hP ktp etp rfl 3 (by decide) (hts (.fieldLink RX6 19 "HoneyHouse$Tape" "end" "I") (List.mem_of_getElem? (i := 2) rfl)) (fun _ h9 => h9) rfl dX6_isWord_9 ?_
  refine lv_aload_n hx hb dX6_isWord_12 rfl (lv_at hl 0 rfl) ?_
  refine va_get (D := D) (ci := 6) (v := .int x2) (C := RX6) (T := TX6) (N := 5) hx hb hts hin6 hown hK hP ktp etp rfl 2 (by decide) (hts (.fieldLink RX6 32 "HoneyHouse$Tape" "start" "I") (List.mem_of_getElem? (i := 3) rfl)) (fun _ h9 => h9) rfl dX6_isWord_13 ?_
  refine lv_isub hx hb dX6_isWord_16 ?_
  refine lv_topi (fun z_2 _ => ?_)
  refine lv_aload_n hx hb dX6_isWord_17 rfl (lv_at hl 1 rfl) ?_
  refine vp_callSi (W.runV (As := []) (rest := [.int z_2]) ⟨hx, hb, hml, hown, hts⟩ (z_length l adK adV fo i9 hi9) (cwV 0 hts gX6_isWord_J0_length_8abf5 rfl rfl rfl (by decide +kernel) ⟨Nat.le_of_ble_eq_true rfl, Nat.le_of_ble_eq_true rfl⟩) ⟨fun a U g mk q => ⟨q.1, SZ.same rfl rfl q.2⟩, vk_recv hsz9.1 hi9 hS, fun U hU hW => ⟨rfl, hsz9.go hS hW hU (fun _ h9 => h9.elim)⟩⟩ rfl rfl hl.1 rfl (lv_room (Nat.le_of_ble_eq_true rfl)) dX6_isWord_18 ⟨Nat.le_of_ble_eq_true rfl, Nat.le_of_ble_eq_true rfl⟩) (fun r_3 k_4 => ?_)
  subst k_4
  refine lv_icmp_eq (tgt := 26) hx hb dX6_isWord_21 (by decide) (fun c_5 => ?_) (fun c_5 => ?_)
  · refine lv_iconst (v := 0) hx hb dX6_isWord_26 (by decide) ?_
    refine lv_istore_n (lv' := [(2, .int 0), (0, .ref tp), (1, .ref (adK i9))]) hx hb dX6_isWord_27 rfl hl (by decide) rfl (fun ls hl => ?_)
    refine lp_V (nL := 3) (σ := Nat) (lv := fun x9 => [(2, .int (nI x9)), (1, .ref (adK i9)), (0, .ref tp)]) (μ := fun x9 => lenS.getD i9 0 - x9) (J := fun x9 ws9 => sm ρ [] ws ws9 ∧ (x9 ≤ lenS.getD i9 0)) (fun x9 ws_9 H locs ls hj hP hD hS hl ih_6 => ?_) 0 ws _ _ ls ⟨sm.rf _, (show 0 ≤ lenS.getD i9 0 from by omega)⟩ hP hD hS (lv_sub hl [0, 2, 1] rfl)
    obtain ⟨i_7, hx9⟩ : ∃ y9, y9 = x9 := ⟨_, rfl⟩
    subst hx9
    replace hj : sm ρ [] ws ws_9 ∧ (i_7 ≤ lenS.getD i9 0) := hj
    obtain ⟨hm_10, hi_8⟩ := hj
    have e_12 := hm_10.objK etp (by decide)
    obtain ⟨f_14, e_13⟩ := hm_10.arrI ebb
    have hsm := hsm.tr (hm_10.mono (by decide))
    have hlp_11 := hm_10
    have hl : lv_has ls 3 [(2, .int (nI i_7)), (1, .ref (adK i9)), (0, .ref tp)] := hl
    refine lv_iload_n hx hb dX6_isWord_28 rfl (lv_at hl 0 rfl) ?_
    refine lv_aload_n hx hb dX6_isWord_29 rfl (lv_at hl 1 rfl) ?_
    refine vp_callSi (W.runV (As := []) (rest := [.int (nI i_7)]) ⟨hx, hb, hml, hown, hts⟩ (z_length l adK adV fo i9 hi9) (cwV 0 hts gX6_isWord_J0_length_8abf5 rfl rfl rfl (by decide +kernel) ⟨Nat.le_of_ble_eq_true rfl, Nat.le_of_ble_eq_true rfl⟩) ⟨fun a U g mk q => ⟨q.1, SZ.same rfl rfl q.2⟩, vk_recv hsz9.1 hi9 hS, fun U hU hW => ⟨rfl, hsz9.go hS hW hU (fun _ h9 => h9.elim)⟩⟩ rfl rfl hl.1 rfl (lv_room (Nat.le_of_ble_eq_true rfl)) dX6_isWord_30 ⟨Nat.le_of_ble_eq_true rfl, Nat.le_of_ble_eq_true rfl⟩) (fun r_15 k_16 => ?_)
    subst k_16
    refine lv_icmp_ge (tgt := 62) hx hb dX6_isWord_33 (by decide) (fun c_17 => ?_) (fun c_17 => ?_)
    · have d_18 := n_le (a := lenS.getD i9 0) (b := i_7) (by omega) (by omega) c_17
      refine lv_iconst (v := 1) hx hb dX6_isWord_62 (by decide) ?_
      exact W.zret (v := 1) hx hb hr rfl (fun t ht hW => ⟨⟨1, (), rfl, Or.inr rfl, ws_9, tys, hsm, htx, by rw [ht]; exact hP, va_K.moved hW.alike hK, hD, trivial⟩, hS.F ht⟩) hS.2.2 dX6_isWord_63
    have d_19 := n_nle (a := lenS.getD i9 0) (b := i_7) (by omega) (by omega) c_17
    refine lv_aload_n hx hb dX6_isWord_36 rfl (lv_at hl 2 rfl) ?_
    refine lv_aload_n hx hb dX6_isWord_37 rfl (lv_at hl 2 rfl) ?_
    refine va_get (D := D) (ci := 6) (v := .int x2) (C := RX6) (T := TX6) (N := 5) hx hb hts hin6 hown hK hP ktp e_12 rfl 2 (by decide) (hts (.fieldLink RX6 32 "HoneyHouse$Tape" "start" "I") (List.mem_of_getElem? (i := 3) rfl)) (fun _ h9 => h9) rfl dX6_isWord_38 ?_
    refine lv_iload_n hx hb dX6_isWord_41 rfl (lv_at hl 0 rfl) ?_
    refine lv_iadd hx hb dX6_isWord_42 ?_
    refine lv_topi (fun z_20 _ => ?_)
    refine vp_callSi (W.runV (As := [.int z_20]) (rest := []) ⟨hx, hb, hml, hown, hts⟩ (s_byteAt l D ws_9 tys tp ktp tl x1 x2 x3 bb kbb cbb tbb f_14 z_20 e_12 e_13 ubb) (cwV 1 hts gX6_isWord_X6_byteAt rfl rfl rfl (by decide +kernel) ⟨Nat.le_of_ble_eq_true rfl, Nat.le_of_ble_eq_true rfl⟩) ⟨fun a U g mk q => ⟨q.1, q.2.1, va_K.moved (u := U) (U := U.calling g mk a) (Vm.Alike.refl U.vm) q.2.2⟩, va_recv hK hP (ci := 6) (q0 := ktp) rfl e_12, fun U hU hW => ⟨rfl, by rw [hU]; exact hP, va_K.moved hW.alike hK⟩⟩ rfl rfl hl.1 rfl (lv_room (Nat.le_of_ble_eq_true rfl)) dX6_isWord_43 ⟨Nat.le_of_ble_eq_true rfl, Nat.le_of_ble_eq_true rfl⟩) (fun r_21 k_22 => ?_)
    refine lv_aload_n hx hb dX6_isWord_46 rfl (lv_at hl 1 rfl) ?_
    refine lv_iload_n hx hb dX6_isWord_47 rfl (lv_at hl 0 rfl) ?_
    refine vp_callSi (W.runV (As := [.int (nI i_7)]) (rest := [.int r_21]) ⟨hx, hb, hml, hown, hts⟩ (z_charAt l adK adV fo i9 i_7 hi9 (by omega)) (cwV 1 hts gX6_isWord_J0_charAt_5068e rfl rfl rfl (by decide +kernel) ⟨Nat.le_of_ble_eq_true rfl, Nat.le_of_ble_eq_true rfl⟩) ⟨fun a U g mk q => ⟨q.1, SZ.same rfl rfl q.2⟩, vk_recv hsz9.1 hi9 hS, fun U hU hW => ⟨rfl, hsz9.go hS hW hU (fun _ h9 => h9.elim)⟩⟩ rfl rfl hl.1 rfl (lv_room (Nat.le_of_ble_eq_true rfl)) dX6_isWord_48 ⟨Nat.le_of_ble_eq_true rfl, Nat.le_of_ble_eq_true rfl⟩) (fun r_23 k_24 => ?_)
    refine lv_icmp_eq (tgt := 56) hx hb dX6_isWord_51 (by decide) (fun c_25 => ?_) (fun c_25 => ?_)
    · refine lv_iinc (v := nI (i_7 + 1)) (lv' := [(2, .int (nI (i_7 + 1))), (1, .ref (adK i9)), (0, .ref tp)]) hx hb dX6_isWord_56 hl (k := 0) rfl (nI_add i_7 1) (by decide) rfl (fun ls hl => ?_)
      refine lv_goto (tgt := 28) hx hb dX6_isWord_59 (by decide) ?_
      exact ih_6 (i_7 + 1) ws_9 _ _ ls (by show lenS.getD i9 0 - (i_7 + 1) < lenS.getD i9 0 - i_7; omega) ⟨hlp_11, (show (i_7 + 1) ≤ lenS.getD i9 0 from by omega)⟩ hP hD hS (lv_sub hl [0, 1, 2] rfl)
    refine lv_iconst (v := 0) hx hb dX6_isWord_54 (by decide) ?_
    exact W.zret (v := 0) hx hb hr rfl (fun t ht hW => ⟨⟨0, (), rfl, Or.inl rfl, ws_9, tys, hsm, htx, by rw [ht]; exact hP, va_K.moved hW.alike hK, hD, trivial⟩, hS.F ht⟩) hS.2.2 dX6_isWord_55
  refine lv_iconst (v := 0) hx hb dX6_isWord_24 (by decide) ?_
  exact W.zret (v := 0) hx hb hr rfl (fun t ht hW => ⟨⟨0, (), rfl, Or.inl rfl, ws, tys, hsm, htx, by rw [ht]; exact hP, va_K.moved hW.alike hK, hD, trivial⟩, hS.F ht⟩) hS.2.2 dX6_isWord_25
set_option maxHeartbeats 4000000 in
set_option maxRecDepth 100000 in
theorem a_wordKey (l : Launch) (D : va_G) (ρ : Nat → Nat) (ws : va_W) (tys : List (ClassId × FieldType)) (tp ktp tl ts te : Nat) (x1 : Int32) (bb kbb : Nat) (cbb : ClassId) (tbb : Nat) (fbb : Nat → Int32) (sz : Nat) (htl : tl ≤ 400) (hts9 : ts ≤ te ∧ te ≤ tl) (etp : ws[ktp]? = some (tp, .inr (6, [.int (nI tl), .int x1, .int (nI ts), .int (nI te), .ref bb]))) (ebb : ws[kbb]? = some (bb, .inl (cbb, 400, .inl fbb))) (ubb : tys[tbb]? = some (cbb, .int)) : Met l yX6_wordKey wsX6_wordKey ({ frames := 1, cells := 0, slots := 0, locals := 21 }) (va_Pc [.ref tp] (fun U => U.heap.size = sz ∧ va_P D vwCl ws U.heap ∧ va_K D vwCl tys U ∧ va_D (fun _ => True) ws)) (va_Ql (fun (r : Int64) (_ : Unit) => True) (fun (_ : Unit) (t : State) => ∃ (ws' : va_W) (tys' : List (ClassId × FieldType)), sm ρ [] ws ws' ∧ tyx tys tys' ∧ va_P D vwCl ws' t.heap ∧ va_K D vwCl tys' t ∧ va_D (va_A ws sz) ws' ∧ (True)) (va_A ws sz)) 0 0 (va_A ws sz) := by
  refine Met.ofW (cc := cX6_wordKey) (maxL := 4) (ret := (some .long)) (by decide) rfl ?_
  intro p e s m args below meth c s₁ B hml hv
  obtain ⟨rfl, hsz, hP, hK, hD0⟩ := hv
  have hx := B.exec
  have hb := B.bytes
  have hr := B.returns
  have hts := atoms_spec (ws := wsX6_wordKey) B.pre
  have hown : s.vm.findClass RX6 = some m.cls := findClass_of_methodNamed B.named
  have hlocks := B.notSynchronized
  subst hsz
  have hD := hD0.self (sz := s.heap.size)
  generalize hAe : va_A ws s.heap.size = A at hD ⊢
  have hA : ∀ q : Nat, s.heap.size ≤ q → A q := fun q h => by rw [← hAe]; exact Or.inr h
  have hS : va_S A s.heap s.heap [] := va_S.rf
  have hsm : sm ρ [] ws ws := sm.rf ws
  have htx : tyx tys tys := tyx.rf tys
  have hin6 : ∀ w ∈ u_ws RX6 TX6 5, w ∈ wsX6_wordKey := (fun _ h9 => List.mem_cons_of_mem _ ((List.mem_append_right _ h9)))
  have hl := lv_entry ([.ref tp]) (n := 4) (Nat.le_of_ble_eq_true rfl)
  rw [lg_entry_eq]
  generalize (lg_sl ([.ref tp]) ++ List.replicate (4 - (lg_sl ([.ref tp])).length) Slot.unset).toArray = ls at hl ⊢
  have hl : lv_has ls 4 [(0, .ref tp)] := hl
  refine lv_lconst (v := 0) hx hb dX6_wordKey_0 (by decide) ?_
  refine lv_lstore_n (lv' := [(1, .long 0), (0, .ref tp)]) hx hb dX6_wordKey_1 rfl hl (by decide) rfl (fun ls hl => ?_)
  refine lv_aload_n hx hb dX6_wordKey_2 rfl (lv_at hl 1 rfl) ?_
  refine va_get (D := D) (ci := 6) (v := .int (nI ts)) (C := RX6) (T := TX6) (N := 5) hx hb hts hin6 hown hK hP ktp etp rfl 2 (by decide) (hts (.fieldLink RX6 32 "HoneyHouse$Tape" "start" "I") (List.mem_of_getElem? (i := 1) rfl)) (fun _ h9 => h9) rfl dX6_wordKey_3 ?_
  refine lv_istore_n (lv' := [(3, .int (nI ts)), (1, .long 0), (0, .ref tp)]) hx hb dX6_wordKey_6 rfl hl (by decide) rfl (fun ls hl => ?_)
  refine lp_V (nL := 4) (σ := Nat × Int64) (lv := fun x9 => [(3, .int (nI x9.1)), (1, .long x9.2), (0, .ref tp)]) (μ := fun x9 => te - x9.1) (J := fun x9 ws9 => sm ρ [] ws ws9 ∧ (x9.1 ≤ te)) (fun x9 ws_5 H locs ls hj hP hD hS hl ih_1 => ?_) (ts, 0) ws _ _ ls ⟨sm.rf _, (show ts ≤ te from by omega)⟩ hP hD hS (lv_sub hl [0, 1, 2] rfl)
  obtain ⟨k_2, x_3⟩ := x9
  replace hj : sm ρ [] ws ws_5 ∧ (k_2 ≤ te) := hj
  obtain ⟨hm_6, hk_4⟩ := hj
  have e_8 := hm_6.objK etp (by decide)
  obtain ⟨f_10, e_9⟩ := hm_6.arrI ebb
  have hsm := hsm.tr (hm_6.mono (by decide))
  have hlp_7 := hm_6
  have hl : lv_has ls 4 [(3, .int (nI k_2)), (1, .long x_3), (0, .ref tp)] := hl
  refine lv_iload_n hx hb dX6_wordKey_7 rfl (lv_at hl 0 rfl) ?_
  refine lv_aload_n hx hb dX6_wordKey_8 rfl (lv_at hl 2 rfl) ?_
  refine va_get (D := D) (ci := 6) (v := .int (nI te)) (C := RX6) (T := TX6) (N := 5) hx hb hts hin6 hown hK hP ktp e_8 rfl 3 (by decide) (hts (.fieldLink RX6 19 "HoneyHouse$Tape" "end" "I") (List.mem_of_getElem? (i := 2) rfl)) (fun _ h9 => h9) rfl dX6_wordKey_9 ?_
  refine lv_icmp_ge (tgt := 38) hx hb dX6_wordKey_12 (by decide) (fun c_11 => ?_) (fun c_11 => ?_)
  · have d_12 := n_le (a := te) (b := k_2) (by omega) (by omega) c_11
    refine lv_lload_n hx hb dX6_wordKey_38 rfl (lv_at hl 1 rfl) ?_
    exact W.lret (v := x_3) hx hb hr (fun t ht hW => ⟨⟨x_3, (), rfl, trivial, ws_5, tys, hsm, htx, by rw [ht]; exact hP, va_K.moved hW.alike hK, hD, trivial⟩, hS.F ht⟩) hS.2.2 dX6_wordKey_39
  have d_13 := n_nle (a := te) (b := k_2) (by omega) (by omega) c_11
  refine lv_lload_n hx hb dX6_wordKey_15 rfl (lv_at hl 1 rfl) ?_
  refine lv_iconst (v := 5) hx hb dX6_wordKey_16 (by decide) ?_
  refine lv_lshl hx hb dX6_wordKey_17 rfl ?_
  refine lv_topl (fun z_14 _ => ?_)
  refine lv_aload_n hx hb dX6_wordKey_18 rfl (lv_at hl 2 rfl) ?_
  refine lv_iload_n hx hb dX6_wordKey_19 rfl (lv_at hl 0 rfl) ?_
  refine vp_callSi (W.runV (As := [.int (nI k_2)]) (rest := [.long z_14]) ⟨hx, hb, hml, hown, hts⟩ (s_byteAt l D ws_5 tys tp ktp tl x1 (nI ts) (nI te) bb kbb cbb tbb f_10 (nI k_2) e_8 e_9 ubb) (cwV 1 hts gX6_wordKey_X6_byteAt rfl rfl rfl (by decide +kernel) ⟨Nat.le_of_ble_eq_true rfl, Nat.le_of_ble_eq_true rfl⟩) ⟨fun a U g mk q => ⟨q.1, q.2.1, va_K.moved (u := U) (U := U.calling g mk a) (Vm.Alike.refl U.vm) q.2.2⟩, va_recv hK hP (ci := 6) (q0 := ktp) rfl e_8, fun U hU hW => ⟨rfl, by rw [hU]; exact hP, va_K.moved hW.alike hK⟩⟩ rfl rfl hl.1 rfl (lv_room (Nat.le_of_ble_eq_true rfl)) dX6_wordKey_20 ⟨Nat.le_of_ble_eq_true rfl, Nat.le_of_ble_eq_true rfl⟩) (fun r_15 k_16 => ?_)
  refine lv_i2l hx hb dX6_wordKey_23 rfl ?_
  refine lv_ladd hx hb dX6_wordKey_24 ?_
  refine lv_topl (fun z_17 _ => ?_)
  refine lv_ldc2 hx hb hown (hts (.constantLong RX6 47 (97)) (List.mem_of_getElem? (i := 3) rfl)) dX6_wordKey_25 ?_
  refine lv_lsub hx hb dX6_wordKey_28 ?_
  refine lv_topl (fun z_18 _ => ?_)
  refine lv_lconst (v := 1) hx hb dX6_wordKey_29 (by decide) ?_
  refine lv_ladd hx hb dX6_wordKey_30 ?_
  refine lv_topl (fun z_19 _ => ?_)
  refine lv_lstore_n (lv' := [(1, .long z_19), (3, .int (nI k_2)), (0, .ref tp)]) hx hb dX6_wordKey_31 rfl hl (by decide) rfl (fun ls hl => ?_)
  refine lv_iinc (v := nI (k_2 + 1)) (lv' := [(3, .int (nI (k_2 + 1))), (1, .long z_19), (0, .ref tp)]) hx hb dX6_wordKey_32 hl (k := 1) rfl (nI_add k_2 1) (by decide) rfl (fun ls hl => ?_)
  refine lv_goto (tgt := 7) hx hb dX6_wordKey_35 (by decide) ?_
  exact ih_1 (k_2 + 1, z_19) ws_5 _ _ ls (by show te - (k_2 + 1) < te - k_2; omega) ⟨hlp_7, (show (k_2 + 1) ≤ te from by omega)⟩ hP hD hS (lv_sub hl [0, 1, 2] rfl)
set_option maxHeartbeats 4000000 in
set_option maxRecDepth 100000 in
theorem a_numberValue (l : Launch) (D : va_G) (ρ : Nat → Nat) (ws : va_W) (tys : List (ClassId × FieldType)) (tp ktp tl ts te : Nat) (x1 : Int32) (bb kbb : Nat) (cbb : ClassId) (tbb : Nat) (fbb : Nat → Int32) (sz : Nat) (htl : tl ≤ 400) (hts9 : ts ≤ te ∧ te ≤ tl) (etp : ws[ktp]? = some (tp, .inr (6, [.int (nI tl), .int x1, .int (nI ts), .int (nI te), .ref bb]))) (ebb : ws[kbb]? = some (bb, .inl (cbb, 400, .inl fbb))) (ubb : tys[tbb]? = some (cbb, .int)) : Met l yX6_numberValue wsX6_numberValue ({ frames := 1, cells := 0, slots := 0, locals := 21 }) (va_Pc [.ref tp] (fun U => U.heap.size = sz ∧ va_P D vwCl ws U.heap ∧ va_K D vwCl tys U ∧ va_D (fun _ => True) ws)) (va_Qi (fun (r : Int32) (_ : Unit) => True) (fun (_ : Unit) (t : State) => ∃ (ws' : va_W) (tys' : List (ClassId × FieldType)), sm ρ [] ws ws' ∧ tyx tys tys' ∧ va_P D vwCl ws' t.heap ∧ va_K D vwCl tys' t ∧ va_D (va_A ws sz) ws' ∧ (True)) (va_A ws sz)) 0 0 (va_A ws sz) := by
  refine Met.ofW (cc := cX6_numberValue) (maxL := 3) (ret := (some .int)) (by decide) rfl ?_
  intro p e s m args below meth c s₁ B hml hv
  obtain ⟨rfl, hsz, hP, hK, hD0⟩ := hv
  have hx := B.exec
  have hb := B.bytes
  have hr := B.returns
  have hts := atoms_spec (ws := wsX6_numberValue) B.pre
  have hown : s.vm.findClass RX6 = some m.cls := findClass_of_methodNamed B.named
  have hlocks := B.notSynchronized
  subst hsz
  have hD := hD0.self (sz := s.heap.size)
  generalize hAe : va_A ws s.heap.size = A at hD ⊢
  have hA : ∀ q : Nat, s.heap.size ≤ q → A q := fun q h => by rw [← hAe]; exact Or.inr h
  have hS : va_S A s.heap s.heap [] := va_S.rf
  have hsm : sm ρ [] ws ws := sm.rf ws
  have htx : tyx tys tys := tyx.rf tys
  have hin6 : ∀ w ∈ u_ws RX6 TX6 5, w ∈ wsX6_numberValue := (fun _ h9 => List.mem_cons_of_mem _ ((List.mem_append_right _ h9)))
  have hl := lv_entry ([.ref tp]) (n := 3) (Nat.le_of_ble_eq_true rfl)
  rw [lg_entry_eq]
  generalize (lg_sl ([.ref tp]) ++ List.replicate (3 - (lg_sl ([.ref tp])).length) Slot.unset).toArray = ls at hl ⊢
  have hl : lv_has ls 3 [(0, .ref tp)] := hl
  refine lv_iconst (v := 0) hx hb dX6_numberValue_0 (by decide) ?_
  refine lv_istore_n (lv' := [(1, .int 0), (0, .ref tp)]) hx hb dX6_numberValue_1 rfl hl (by decide) rfl (fun ls hl => ?_)
  refine lv_aload_n hx hb dX6_numberValue_2 rfl (lv_at hl 1 rfl) ?_
  refine va_get (D := D) (ci := 6) (v := .int (nI ts)) (C := RX6) (T := TX6) (N := 5) hx hb hts hin6 hown hK hP ktp etp rfl 2 (by decide) (hts (.fieldLink RX6 32 "HoneyHouse$Tape" "start" "I") (List.mem_of_getElem? (i := 1) rfl)) (fun _ h9 => h9) rfl dX6_numberValue_3 ?_
  refine lv_istore_n (lv' := [(2, .int (nI ts)), (1, .int 0), (0, .ref tp)]) hx hb dX6_numberValue_6 rfl hl (by decide) rfl (fun ls hl => ?_)
  refine lp_V (nL := 3) (σ := Nat × Int32) (lv := fun x9 => [(2, .int (nI x9.1)), (1, .int x9.2), (0, .ref tp)]) (μ := fun x9 => te - x9.1) (J := fun x9 ws9 => sm ρ [] ws ws9 ∧ (x9.1 ≤ te)) (fun x9 ws_5 H locs ls hj hP hD hS hl ih_1 => ?_) (ts, 0) ws _ _ ls ⟨sm.rf _, (show ts ≤ te from by omega)⟩ hP hD hS (lv_sub hl [0, 1, 2] rfl)
  obtain ⟨k_2, x_3⟩ := x9
  replace hj : sm ρ [] ws ws_5 ∧ (k_2 ≤ te) := hj
  obtain ⟨hm_6, hk_4⟩ := hj
  have e_8 := hm_6.objK etp (by decide)
  obtain ⟨f_10, e_9⟩ := hm_6.arrI ebb
  have hsm := hsm.tr (hm_6.mono (by decide))
  have hlp_7 := hm_6
  have hl : lv_has ls 3 [(2, .int (nI k_2)), (1, .int x_3), (0, .ref tp)] := hl
  refine lv_iload_n hx hb dX6_numberValue_7 rfl (lv_at hl 0 rfl) ?_
  refine lv_aload_n hx hb dX6_numberValue_8 rfl (lv_at hl 2 rfl) ?_
  refine va_get (D := D) (ci := 6) (v := .int (nI te)) (C := RX6) (T := TX6) (N := 5) hx hb hts hin6 hown hK hP ktp e_8 rfl 3 (by decide) (hts (.fieldLink RX6 19 "HoneyHouse$Tape" "end" "I") (List.mem_of_getElem? (i := 2) rfl)) (fun _ h9 => h9) rfl dX6_numberValue_9 ?_
  refine lv_icmp_ge (tgt := 35) hx hb dX6_numberValue_12 (by decide) (fun c_11 => ?_) (fun c_11 => ?_)
  · have d_12 := n_le (a := te) (b := k_2) (by omega) (by omega) c_11
    refine lv_iload_n hx hb dX6_numberValue_35 rfl (lv_at hl 1 rfl) ?_
    exact W.iret (v := x_3) hx hb hr (fun t ht hW => ⟨⟨x_3, (), rfl, trivial, ws_5, tys, hsm, htx, by rw [ht]; exact hP, va_K.moved hW.alike hK, hD, trivial⟩, hS.F ht⟩) hS.2.2 dX6_numberValue_36
  have d_13 := n_nle (a := te) (b := k_2) (by omega) (by omega) c_11
  refine lv_iload_n hx hb dX6_numberValue_15 rfl (lv_at hl 1 rfl) ?_
  refine lv_bipush (v := 10) hx hb dX6_numberValue_16 (by decide) ?_
  refine lv_imul hx hb dX6_numberValue_18 ?_
  refine lv_topi (fun z_14 _ => ?_)
  refine lv_aload_n hx hb dX6_numberValue_19 rfl (lv_at hl 2 rfl) ?_
  refine lv_iload_n hx hb dX6_numberValue_20 rfl (lv_at hl 0 rfl) ?_
  refine vp_callSi (W.runV (As := [.int (nI k_2)]) (rest := [.int z_14]) ⟨hx, hb, hml, hown, hts⟩ (s_byteAt l D ws_5 tys tp ktp tl x1 (nI ts) (nI te) bb kbb cbb tbb f_10 (nI k_2) e_8 e_9 ubb) (cwV 1 hts gX6_numberValue_X6_byteAt rfl rfl rfl (by decide +kernel) ⟨Nat.le_of_ble_eq_true rfl, Nat.le_of_ble_eq_true rfl⟩) ⟨fun a U g mk q => ⟨q.1, q.2.1, va_K.moved (u := U) (U := U.calling g mk a) (Vm.Alike.refl U.vm) q.2.2⟩, va_recv hK hP (ci := 6) (q0 := ktp) rfl e_8, fun U hU hW => ⟨rfl, by rw [hU]; exact hP, va_K.moved hW.alike hK⟩⟩ rfl rfl hl.1 rfl (lv_room (Nat.le_of_ble_eq_true rfl)) dX6_numberValue_21 ⟨Nat.le_of_ble_eq_true rfl, Nat.le_of_ble_eq_true rfl⟩) (fun r_15 k_16 => ?_)
  refine lv_iadd hx hb dX6_numberValue_24 ?_
  refine lv_topi (fun z_17 _ => ?_)
  refine lv_bipush (v := 48) hx hb dX6_numberValue_25 (by decide) ?_
  refine lv_isub hx hb dX6_numberValue_27 ?_
  refine lv_topi (fun z_18 _ => ?_)
  refine lv_istore_n (lv' := [(1, .int z_18), (2, .int (nI k_2)), (0, .ref tp)]) hx hb dX6_numberValue_28 rfl hl (by decide) rfl (fun ls hl => ?_)
  refine lv_iinc (v := nI (k_2 + 1)) (lv' := [(2, .int (nI (k_2 + 1))), (1, .int z_18), (0, .ref tp)]) hx hb dX6_numberValue_29 hl (k := 1) rfl (nI_add k_2 1) (by decide) rfl (fun ls hl => ?_)
  refine lv_goto (tgt := 7) hx hb dX6_numberValue_32 (by decide) ?_
  exact ih_1 (k_2 + 1, z_18) ws_5 _ _ ls (by show te - (k_2 + 1) < te - k_2; omega) ⟨hlp_7, (show (k_2 + 1) ≤ te from by omega)⟩ hP hD hS (lv_sub hl [0, 1, 2] rfl)
