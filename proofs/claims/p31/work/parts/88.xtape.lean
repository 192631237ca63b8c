theorem dX6_byteAt_0 : decode cX6_byteAt 0 = .ok (.iload_n 1, 1) := by decide +kernel
theorem dX6_byteAt_1 : decode cX6_byteAt 1 = .ok (.ifCond .lt 29, 3) := by decide +kernel
theorem dX6_byteAt_4 : decode cX6_byteAt 4 = .ok (.iload_n 1, 1) := by decide +kernel
theorem dX6_byteAt_5 : decode cX6_byteAt 5 = .ok (.aload_n 0, 1) := by decide +kernel
theorem dX6_byteAt_6 : decode cX6_byteAt 6 = .ok (.getfield 15, 3) := by decide +kernel
theorem dX6_byteAt_9 : decode cX6_byteAt 9 = .ok (.if_icmp .ge 21, 3) := by decide +kernel
theorem dX6_byteAt_12 : decode cX6_byteAt 12 = .ok (.iload_n 1, 1) := by decide +kernel
theorem dX6_byteAt_13 : decode cX6_byteAt 13 = .ok (.aload_n 0, 1) := by decide +kernel
theorem dX6_byteAt_14 : decode cX6_byteAt 14 = .ok (.getfield 9, 3) := by decide +kernel
theorem dX6_byteAt_17 : decode cX6_byteAt 17 = .ok (.arraylength, 1) := by decide +kernel
theorem dX6_byteAt_18 : decode cX6_byteAt 18 = .ok (.if_icmp .ge 12, 3) := by decide +kernel
theorem dX6_byteAt_21 : decode cX6_byteAt 21 = .ok (.aload_n 0, 1) := by decide +kernel
theorem dX6_byteAt_22 : decode cX6_byteAt 22 = .ok (.getfield 9, 3) := by decide +kernel
theorem dX6_byteAt_25 : decode cX6_byteAt 25 = .ok (.iload_n 1, 1) := by decide +kernel
theorem dX6_byteAt_26 : decode cX6_byteAt 26 = .ok (.iaload, 1) := by decide +kernel
theorem dX6_byteAt_27 : decode cX6_byteAt 27 = .ok (.goto 4, 3) := by decide +kernel
theorem dX6_byteAt_30 : decode cX6_byteAt 30 = .ok (.iconst (-1), 1) := by decide +kernel
theorem dX6_byteAt_31 : decode cX6_byteAt 31 = .ok (.ireturn, 1) := by decide +kernel
theorem dX6_kindOf_0 : decode cX6_kindOf 0 = .ok (.iload_n 0, 1) := by decide +kernel
theorem dX6_kindOf_1 : decode cX6_kindOf 1 = .ok (.bipush 97, 2) := by decide +kernel
theorem dX6_kindOf_3 : decode cX6_kindOf 3 = .ok (.if_icmp .lt 11, 3) := by decide +kernel
theorem dX6_kindOf_6 : decode cX6_kindOf 6 = .ok (.iload_n 0, 1) := by decide +kernel
theorem dX6_kindOf_7 : decode cX6_kindOf 7 = .ok (.bipush 122, 2) := by decide +kernel
theorem dX6_kindOf_9 : decode cX6_kindOf 9 = .ok (.if_icmp .gt 5, 3) := by decide +kernel
theorem dX6_kindOf_12 : decode cX6_kindOf 12 = .ok (.iconst 1, 1) := by decide +kernel
theorem dX6_kindOf_13 : decode cX6_kindOf 13 = .ok (.ireturn, 1) := by decide +kernel
theorem dX6_kindOf_14 : decode cX6_kindOf 14 = .ok (.iload_n 0, 1) := by decide +kernel
theorem dX6_kindOf_15 : decode cX6_kindOf 15 = .ok (.bipush 48, 2) := by decide +kernel
theorem dX6_kindOf_17 : decode cX6_kindOf 17 = .ok (.if_icmp .lt 11, 3) := by decide +kernel
theorem dX6_kindOf_20 : decode cX6_kindOf 20 = .ok (.iload_n 0, 1) := by decide +kernel
theorem dX6_kindOf_21 : decode cX6_kindOf 21 = .ok (.bipush 57, 2) := by decide +kernel
theorem dX6_kindOf_23 : decode cX6_kindOf 23 = .ok (.if_icmp .gt 5, 3) := by decide +kernel
theorem dX6_kindOf_26 : decode cX6_kindOf 26 = .ok (.iconst 2, 1) := by decide +kernel
theorem dX6_kindOf_27 : decode cX6_kindOf 27 = .ok (.ireturn, 1) := by decide +kernel
theorem dX6_kindOf_28 : decode cX6_kindOf 28 = .ok (.iload_n 0, 1) := by decide +kernel
theorem dX6_kindOf_29 : decode cX6_kindOf 29 = .ok (.bipush 10, 2) := by decide +kernel
theorem dX6_kindOf_31 : decode cX6_kindOf 31 = .ok (.if_icmp .eq 9, 3) := by decide +kernel
theorem dX6_kindOf_34 : decode cX6_kindOf 34 = .ok (.iload_n 0, 1) := by decide +kernel
theorem dX6_kindOf_35 : decode cX6_kindOf 35 = .ok (.bipush 32, 2) := by decide +kernel
theorem dX6_kindOf_37 : decode cX6_kindOf 37 = .ok (.if_icmp .ne 5, 3) := by decide +kernel
theorem dX6_kindOf_40 : decode cX6_kindOf 40 = .ok (.iconst 3, 1) := by decide +kernel
theorem dX6_kindOf_41 : decode cX6_kindOf 41 = .ok (.ireturn, 1) := by decide +kernel
theorem dX6_kindOf_42 : decode cX6_kindOf 42 = .ok (.iload_n 0, 1) := by decide +kernel
theorem dX6_kindOf_43 : decode cX6_kindOf 43 = .ok (.iconst (-1), 1) := by decide +kernel
theorem dX6_kindOf_44 : decode cX6_kindOf 44 = .ok (.if_icmp .ne 7, 3) := by decide +kernel
theorem dX6_kindOf_47 : decode cX6_kindOf 47 = .ok (.iconst 0, 1) := by decide +kernel
theorem dX6_kindOf_48 : decode cX6_kindOf 48 = .ok (.goto 4, 3) := by decide +kernel
theorem dX6_kindOf_51 : decode cX6_kindOf 51 = .ok (.iconst 4, 1) := by decide +kernel
theorem dX6_kindOf_52 : decode cX6_kindOf 52 = .ok (.ireturn, 1) := by decide +kernel
theorem dX6_advance_0 : decode cX6_advance 0 = .ok (.aload_n 0, 1) := by decide +kernel
theorem dX6_advance_1 : decode cX6_advance 1 = .ok (.getfield 19, 3) := by decide +kernel
theorem dX6_advance_4 : decode cX6_advance 4 = .ok (.istore_n 1, 1) := by decide +kernel
theorem dX6_advance_5 : decode cX6_advance 5 = .ok (.iload_n 1, 1) := by decide +kernel
theorem dX6_advance_6 : decode cX6_advance 6 = .ok (.aload_n 0, 1) := by decide +kernel
theorem dX6_advance_7 : decode cX6_advance 7 = .ok (.getfield 15, 3) := by decide +kernel
theorem dX6_advance_10 : decode cX6_advance 10 = .ok (.if_icmp .ge 21, 3) := by decide +kernel
theorem dX6_advance_13 : decode cX6_advance 13 = .ok (.aload_n 0, 1) := by decide +kernel
theorem dX6_advance_14 : decode cX6_advance 14 = .ok (.iload_n 1, 1) := by decide +kernel
theorem dX6_advance_15 : decode cX6_advance 15 = .ok (.invokevirtual 25, 3) := by decide +kernel
theorem dX6_advance_18 : decode cX6_advance 18 = .ok (.invokestatic 29, 3) := by decide +kernel
theorem dX6_advance_21 : decode cX6_advance 21 = .ok (.iconst 3, 1) := by decide +kernel
theorem dX6_advance_22 : decode cX6_advance 22 = .ok (.if_icmp .ne 9, 3) := by decide +kernel
theorem dX6_advance_25 : decode cX6_advance 25 = .ok (.iinc 1 1, 3) := by decide +kernel
theorem dX6_advance_28 : decode cX6_advance 28 = .ok (.goto (-23), 3) := by decide +kernel
theorem dX6_advance_31 : decode cX6_advance 31 = .ok (.aload_n 0, 1) := by decide +kernel
theorem dX6_advance_32 : decode cX6_advance 32 = .ok (.iload_n 1, 1) := by decide +kernel
theorem dX6_advance_33 : decode cX6_advance 33 = .ok (.putfield 32, 3) := by decide +kernel
theorem dX6_advance_36 : decode cX6_advance 36 = .ok (.aload_n 0, 1) := by decide +kernel
theorem dX6_advance_37 : decode cX6_advance 37 = .ok (.aload_n 0, 1) := by decide +kernel
theorem dX6_advance_38 : decode cX6_advance 38 = .ok (.iload_n 1, 1) := by decide +kernel
theorem dX6_advance_39 : decode cX6_advance 39 = .ok (.invokevirtual 25, 3) := by decide +kernel
theorem dX6_advance_42 : decode cX6_advance 42 = .ok (.invokestatic 29, 3) := by decide +kernel
theorem dX6_advance_45 : decode cX6_advance 45 = .ok (.putfield 35, 3) := by decide +kernel
theorem dX6_advance_48 : decode cX6_advance 48 = .ok (.aload_n 0, 1) := by decide +kernel
theorem dX6_advance_49 : decode cX6_advance 49 = .ok (.aload_n 0, 1) := by decide +kernel
theorem dX6_advance_50 : decode cX6_advance 50 = .ok (.getfield 35, 3) := by decide +kernel
theorem dX6_advance_53 : decode cX6_advance 53 = .ok (.ifCond .ne 7, 3) := by decide +kernel
theorem dX6_advance_56 : decode cX6_advance 56 = .ok (.iload_n 1, 1) := by decide +kernel
theorem dX6_advance_57 : decode cX6_advance 57 = .ok (.goto 6, 3) := by decide +kernel
theorem dX6_advance_60 : decode cX6_advance 60 = .ok (.iload_n 1, 1) := by decide +kernel
theorem dX6_advance_61 : decode cX6_advance 61 = .ok (.iconst 1, 1) := by decide +kernel
theorem dX6_advance_62 : decode cX6_advance 62 = .ok (.iadd, 1) := by decide +kernel
theorem dX6_advance_63 : decode cX6_advance 63 = .ok (.putfield 19, 3) := by decide +kernel
theorem dX6_advance_66 : decode cX6_advance 66 = .ok (.aload_n 0, 1) := by decide +kernel
theorem dX6_advance_67 : decode cX6_advance 67 = .ok (.getfield 35, 3) := by decide +kernel
theorem dX6_advance_70 : decode cX6_advance 70 = .ok (.iconst 1, 1) := by decide +kernel
theorem dX6_advance_71 : decode cX6_advance 71 = .ok (.if_icmp .eq 11, 3) := by decide +kernel
theorem dX6_advance_74 : decode cX6_advance 74 = .ok (.aload_n 0, 1) := by decide +kernel
theorem dX6_advance_75 : decode cX6_advance 75 = .ok (.getfield 35, 3) := by decide +kernel
theorem dX6_advance_78 : decode cX6_advance 78 = .ok (.iconst 2, 1) := by decide +kernel
theorem dX6_advance_79 : decode cX6_advance 79 = .ok (.if_icmp .ne 7, 3) := by decide +kernel
theorem dX6_advance_82 : decode cX6_advance 82 = .ok (.iconst 1, 1) := by decide +kernel
theorem dX6_advance_83 : decode cX6_advance 83 = .ok (.goto 4, 3) := by decide +kernel
theorem dX6_advance_86 : decode cX6_advance 86 = .ok (.iconst 0, 1) := by decide +kernel
theorem dX6_advance_87 : decode cX6_advance 87 = .ok (.istore_n 2, 1) := by decide +kernel
theorem dX6_advance_88 : decode cX6_advance 88 = .ok (.iload_n 2, 1) := by decide +kernel
theorem dX6_advance_89 : decode cX6_advance 89 = .ok (.ifCond .eq 45, 3) := by decide +kernel
theorem dX6_advance_92 : decode cX6_advance 92 = .ok (.aload_n 0, 1) := by decide +kernel
theorem dX6_advance_93 : decode cX6_advance 93 = .ok (.getfield 19, 3) := by decide +kernel
theorem dX6_advance_96 : decode cX6_advance 96 = .ok (.aload_n 0, 1) := by decide +kernel
theorem dX6_advance_97 : decode cX6_advance 97 = .ok (.getfield 15, 3) := by decide +kernel
theorem dX6_advance_100 : decode cX6_advance 100 = .ok (.if_icmp .ge 34, 3) := by decide +kernel
theorem dX6_advance_103 : decode cX6_advance 103 = .ok (.aload_n 0, 1) := by decide +kernel
theorem dX6_advance_104 : decode cX6_advance 104 = .ok (.aload_n 0, 1) := by decide +kernel
theorem dX6_advance_105 : decode cX6_advance 105 = .ok (.getfield 19, 3) := by decide +kernel
theorem dX6_advance_108 : decode cX6_advance 108 = .ok (.invokevirtual 25, 3) := by decide +kernel
theorem dX6_advance_111 : decode cX6_advance 111 = .ok (.invokestatic 29, 3) := by decide +kernel
theorem dX6_advance_114 : decode cX6_advance 114 = .ok (.aload_n 0, 1) := by decide +kernel
theorem dX6_advance_115 : decode cX6_advance 115 = .ok (.getfield 35, 3) := by decide +kernel
theorem dX6_advance_118 : decode cX6_advance 118 = .ok (.if_icmp .ne 16, 3) := by decide +kernel
theorem dX6_advance_121 : decode cX6_advance 121 = .ok (.aload_n 0, 1) := by decide +kernel
theorem dX6_advance_122 : decode cX6_advance 122 = .ok (.dup, 1) := by decide +kernel
theorem dX6_advance_123 : decode cX6_advance 123 = .ok (.getfield 19, 3) := by decide +kernel
theorem dX6_advance_126 : decode cX6_advance 126 = .ok (.iconst 1, 1) := by decide +kernel
theorem dX6_advance_127 : decode cX6_advance 127 = .ok (.iadd, 1) := by decide +kernel
theorem dX6_advance_128 : decode cX6_advance 128 = .ok (.putfield 19, 3) := by decide +kernel
theorem dX6_advance_131 : decode cX6_advance 131 = .ok (.goto (-43), 3) := by decide +kernel
theorem dX6_advance_134 : decode cX6_advance 134 = .ok (.return_, 1) := by decide +kernel
theorem dX6_rewind_0 : decode cX6_rewind 0 = .ok (.aload_n 0, 1) := by decide +kernel
theorem dX6_rewind_1 : decode cX6_rewind 1 = .ok (.iconst 0, 1) := by decide +kernel
theorem dX6_rewind_2 : decode cX6_rewind 2 = .ok (.putfield 19, 3) := by decide +kernel
theorem dX6_rewind_5 : decode cX6_rewind 5 = .ok (.aload_n 0, 1) := by decide +kernel
theorem dX6_rewind_6 : decode cX6_rewind 6 = .ok (.invokevirtual 22, 3) := by decide +kernel
theorem dX6_rewind_9 : decode cX6_rewind 9 = .ok (.return_, 1) := by decide +kernel
theorem dX6_isByte_0 : decode cX6_isByte 0 = .ok (.aload_n 0, 1) := by decide +kernel
theorem dX6_isByte_1 : decode cX6_isByte 1 = .ok (.getfield 35, 3) := by decide +kernel
theorem dX6_isByte_4 : decode cX6_isByte 4 = .ok (.iconst 4, 1) := by decide +kernel
theorem dX6_isByte_5 : decode cX6_isByte 5 = .ok (.if_icmp .ne 19, 3) := by decide +kernel
theorem dX6_isByte_8 : decode cX6_isByte 8 = .ok (.aload_n 0, 1) := by decide +kernel
theorem dX6_isByte_9 : decode cX6_isByte 9 = .ok (.aload_n 0, 1) := by decide +kernel
theorem dX6_isByte_10 : decode cX6_isByte 10 = .ok (.getfield 32, 3) := by decide +kernel
theorem dX6_isByte_13 : decode cX6_isByte 13 = .ok (.invokevirtual 25, 3) := by decide +kernel
theorem dX6_isByte_16 : decode cX6_isByte 16 = .ok (.iload_n 1, 1) := by decide +kernel
theorem dX6_isByte_17 : decode cX6_isByte 17 = .ok (.if_icmp .ne 7, 3) := by decide +kernel
theorem dX6_isByte_20 : decode cX6_isByte 20 = .ok (.iconst 1, 1) := by decide +kernel
theorem dX6_isByte_21 : decode cX6_isByte 21 = .ok (.goto 4, 3) := by decide +kernel
theorem dX6_isByte_24 : decode cX6_isByte 24 = .ok (.iconst 0, 1) := by decide +kernel
theorem dX6_isByte_25 : decode cX6_isByte 25 = .ok (.ireturn, 1) := by decide +kernel
theorem dX6_isWord_0 : decode cX6_isWord 0 = .ok (.aload_n 0, 1) := by decide +kernel
theorem dX6_isWord_1 : decode cX6_isWord 1 = .ok (.getfield 35, 3) := by decide +kernel
theorem dX6_isWord_4 : decode cX6_isWord 4 = .ok (.iconst 1, 1) := by decide +kernel
theorem dX6_isWord_5 : decode cX6_isWord 5 = .ok (.if_icmp .ne 19, 3) := by decide +kernel
theorem dX6_isWord_8 : decode cX6_isWord 8 = .ok (.aload_n 0, 1) := by decide +kernel
theorem dX6_isWord_9 : decode cX6_isWord 9 = .ok (.getfield 19, 3) := by decide +kernel
theorem dX6_isWord_12 : decode cX6_isWord 12 = .ok (.aload_n 0, 1) := by decide +kernel
theorem dX6_isWord_13 : decode cX6_isWord 13 = .ok (.getfield 32, 3) := by decide +kernel
theorem dX6_isWord_16 : decode cX6_isWord 16 = .ok (.isub, 1) := by decide +kernel
theorem dX6_isWord_17 : decode cX6_isWord 17 = .ok (.aload_n 1, 1) := by decide +kernel
theorem dX6_isWord_18 : decode cX6_isWord 18 = .ok (.invokevirtual 38, 3) := by decide +kernel
theorem dX6_isWord_21 : decode cX6_isWord 21 = .ok (.if_icmp .eq 5, 3) := by decide +kernel
theorem dX6_isWord_24 : decode cX6_isWord 24 = .ok (.iconst 0, 1) := by decide +kernel
theorem dX6_isWord_25 : decode cX6_isWord 25 = .ok (.ireturn, 1) := by decide +kernel
theorem dX6_isWord_26 : decode cX6_isWord 26 = .ok (.iconst 0, 1) := by decide +kernel
theorem dX6_isWord_27 : decode cX6_isWord 27 = .ok (.istore_n 2, 1) := by decide +kernel
theorem dX6_isWord_28 : decode cX6_isWord 28 = .ok (.iload_n 2, 1) := by decide +kernel
theorem dX6_isWord_29 : decode cX6_isWord 29 = .ok (.aload_n 1, 1) := by decide +kernel
theorem dX6_isWord_30 : decode cX6_isWord 30 = .ok (.invokevirtual 38, 3) := by decide +kernel
theorem dX6_isWord_33 : decode cX6_isWord 33 = .ok (.if_icmp .ge 29, 3) := by decide +kernel
theorem dX6_isWord_36 : decode cX6_isWord 36 = .ok (.aload_n 0, 1) := by decide +kernel
theorem dX6_isWord_37 : decode cX6_isWord 37 = .ok (.aload_n 0, 1) := by decide +kernel
theorem dX6_isWord_38 : decode cX6_isWord 38 = .ok (.getfield 32, 3) := by decide +kernel
theorem dX6_isWord_41 : decode cX6_isWord 41 = .ok (.iload_n 2, 1) := by decide +kernel
theorem dX6_isWord_42 : decode cX6_isWord 42 = .ok (.iadd, 1) := by decide +kernel
theorem dX6_isWord_43 : decode cX6_isWord 43 = .ok (.invokevirtual 25, 3) := by decide +kernel
theorem dX6_isWord_46 : decode cX6_isWord 46 = .ok (.aload_n 1, 1) := by decide +kernel
theorem dX6_isWord_47 : decode cX6_isWord 47 = .ok (.iload_n 2, 1) := by decide +kernel
theorem dX6_isWord_48 : decode cX6_isWord 48 = .ok (.invokevirtual 43, 3) := by decide +kernel
theorem dX6_isWord_51 : decode cX6_isWord 51 = .ok (.if_icmp .eq 5, 3) := by decide +kernel
theorem dX6_isWord_54 : decode cX6_isWord 54 = .ok (.iconst 0, 1) := by decide +kernel
theorem dX6_isWord_55 : decode cX6_isWord 55 = .ok (.ireturn, 1) := by decide +kernel
theorem dX6_isWord_56 : decode cX6_isWord 56 = .ok (.iinc 2 1, 3) := by decide +kernel
theorem dX6_isWord_59 : decode cX6_isWord 59 = .ok (.goto (-31), 3) := by decide +kernel
theorem dX6_isWord_62 : decode cX6_isWord 62 = .ok (.iconst 1, 1) := by decide +kernel
theorem dX6_isWord_63 : decode cX6_isWord 63 = .ok (.ireturn, 1) := by decide +kernel
theorem dX6_wordKey_0 : decode cX6_wordKey 0 = .ok (.lconst 0, 1) := by decide +kernel
theorem dX6_wordKey_1 : decode cX6_wordKey 1 = .ok (.lstore_n 1, 1) := by decide +kernel
theorem dX6_wordKey_2 : decode cX6_wordKey 2 = .ok (.aload_n 0, 1) := by decide +kernel
theorem dX6_wordKey_3 : decode cX6_wordKey 3 = .ok (.getfield 32, 3) := by decide +kernel
theorem dX6_wordKey_6 : decode cX6_wordKey 6 = .ok (.istore_n 3, 1) := by decide +kernel
theorem dX6_wordKey_7 : decode cX6_wordKey 7 = .ok (.iload_n 3, 1) := by decide +kernel
theorem dX6_wordKey_8 : decode cX6_wordKey 8 = .ok (.aload_n 0, 1) := by decide +kernel
theorem dX6_wordKey_9 : decode cX6_wordKey 9 = .ok (.getfield 19, 3) := by decide +kernel
theorem dX6_wordKey_12 : decode cX6_wordKey 12 = .ok (.if_icmp .ge 26, 3) := by decide +kernel
theorem dX6_wordKey_15 : decode cX6_wordKey 15 = .ok (.lload_n 1, 1) := by decide +kernel
theorem dX6_wordKey_16 : decode cX6_wordKey 16 = .ok (.iconst 5, 1) := by decide +kernel
theorem dX6_wordKey_17 : decode cX6_wordKey 17 = .ok (.lshl, 1) := by decide +kernel
theorem dX6_wordKey_18 : decode cX6_wordKey 18 = .ok (.aload_n 0, 1) := by decide +kernel
theorem dX6_wordKey_19 : decode cX6_wordKey 19 = .ok (.iload_n 3, 1) := by decide +kernel
theorem dX6_wordKey_20 : decode cX6_wordKey 20 = .ok (.invokevirtual 25, 3) := by decide +kernel
theorem dX6_wordKey_23 : decode cX6_wordKey 23 = .ok (.i2l, 1) := by decide +kernel
theorem dX6_wordKey_24 : decode cX6_wordKey 24 = .ok (.ladd, 1) := by decide +kernel
theorem dX6_wordKey_25 : decode cX6_wordKey 25 = .ok (.ldc2_w 47, 3) := by decide +kernel
theorem dX6_wordKey_28 : decode cX6_wordKey 28 = .ok (.lsub, 1) := by decide +kernel
theorem dX6_wordKey_29 : decode cX6_wordKey 29 = .ok (.lconst 1, 1) := by decide +kernel
theorem dX6_wordKey_30 : decode cX6_wordKey 30 = .ok (.ladd, 1) := by decide +kernel
theorem dX6_wordKey_31 : decode cX6_wordKey 31 = .ok (.lstore_n 1, 1) := by decide +kernel
theorem dX6_wordKey_32 : decode cX6_wordKey 32 = .ok (.iinc 3 1, 3) := by decide +kernel
theorem dX6_wordKey_35 : decode cX6_wordKey 35 = .ok (.goto (-28), 3) := by decide +kernel
theorem dX6_wordKey_38 : decode cX6_wordKey 38 = .ok (.lload_n 1, 1) := by decide +kernel
theorem dX6_wordKey_39 : decode cX6_wordKey 39 = .ok (.lreturn, 1) := by decide +kernel
theorem dX6_numberValue_0 : decode cX6_numberValue 0 = .ok (.iconst 0, 1) := by decide +kernel
theorem dX6_numberValue_1 : decode cX6_numberValue 1 = .ok (.istore_n 1, 1) := by decide +kernel
theorem dX6_numberValue_2 : decode cX6_numberValue 2 = .ok (.aload_n 0, 1) := by decide +kernel
theorem dX6_numberValue_3 : decode cX6_numberValue 3 = .ok (.getfield 32, 3) := by decide +kernel
theorem dX6_numberValue_6 : decode cX6_numberValue 6 = .ok (.istore_n 2, 1) := by decide +kernel
theorem dX6_numberValue_7 : decode cX6_numberValue 7 = .ok (.iload_n 2, 1) := by decide +kernel
theorem dX6_numberValue_8 : decode cX6_numberValue 8 = .ok (.aload_n 0, 1) := by decide +kernel
theorem dX6_numberValue_9 : decode cX6_numberValue 9 = .ok (.getfield 19, 3) := by decide +kernel
theorem dX6_numberValue_12 : decode cX6_numberValue 12 = .ok (.if_icmp .ge 23, 3) := by decide +kernel
theorem dX6_numberValue_15 : decode cX6_numberValue 15 = .ok (.iload_n 1, 1) := by decide +kernel
theorem dX6_numberValue_16 : decode cX6_numberValue 16 = .ok (.bipush 10, 2) := by decide +kernel
theorem dX6_numberValue_18 : decode cX6_numberValue 18 = .ok (.imul, 1) := by decide +kernel
theorem dX6_numberValue_19 : decode cX6_numberValue 19 = .ok (.aload_n 0, 1) := by decide +kernel
theorem dX6_numberValue_20 : decode cX6_numberValue 20 = .ok (.iload_n 2, 1) := by decide +kernel
theorem dX6_numberValue_21 : decode cX6_numberValue 21 = .ok (.invokevirtual 25, 3) := by decide +kernel
theorem dX6_numberValue_24 : decode cX6_numberValue 24 = .ok (.iadd, 1) := by decide +kernel
theorem dX6_numberValue_25 : decode cX6_numberValue 25 = .ok (.bipush 48, 2) := by decide +kernel
theorem dX6_numberValue_27 : decode cX6_numberValue 27 = .ok (.isub, 1) := by decide +kernel
theorem dX6_numberValue_28 : decode cX6_numberValue 28 = .ok (.istore_n 1, 1) := by decide +kernel
theorem dX6_numberValue_29 : decode cX6_numberValue 29 = .ok (.iinc 2 1, 3) := by decide +kernel
theorem dX6_numberValue_32 : decode cX6_numberValue 32 = .ok (.goto (-25), 3) := by decide +kernel
theorem dX6_numberValue_35 : decode cX6_numberValue 35 = .ok (.iload_n 1, 1) := by decide +kernel
theorem dX6_numberValue_36 : decode cX6_numberValue 36 = .ok (.ireturn, 1) := by decide +kernel
set_option maxRecDepth 20000 in
theorem ggX6_advance_X6_byteAt : GoodIn wsX6_advance wsX6_byteAt := goodIn_r _ [9, 2, 10, 14, 15, 16, 17, 18] rfl (by decide +kernel)
set_option maxRecDepth 20000 in
theorem gX6_advance_X6_byteAt : GoodIn wsX6_advance (wsV RX6 25 RX6 yX6_byteAt wsX6_byteAt) := goodIn_app (goodIn_of _ (by decide +kernel)) ggX6_advance_X6_byteAt
set_option maxRecDepth 20000 in
theorem ggX6_advance_X6_kindOf : GoodIn wsX6_advance wsX6_kindOf := goodIn_r _ [13] rfl (by decide +kernel)
set_option maxRecDepth 20000 in
theorem gX6_advance_X6_kindOf : GoodIn wsX6_advance (va_wsS RX6 29 yX6_kindOf wsX6_kindOf) := goodIn_app (goodIn_of _ (by decide +kernel)) ggX6_advance_X6_kindOf
set_option maxRecDepth 20000 in
theorem ggX6_rewind_X6_advance : GoodIn wsX6_rewind wsX6_advance := goodIn_r _ [6, 1, 7, 8, 9, 10, 11, 12, 5, 13, 14, 15, 16, 17, 18, 19, 20, 21, 22] rfl (by decide +kernel)
set_option maxRecDepth 20000 in
theorem gX6_rewind_X6_advance : GoodIn wsX6_rewind (wsV RX6 22 RX6 yX6_advance wsX6_advance) := goodIn_app (goodIn_of _ (by decide +kernel)) ggX6_rewind_X6_advance
set_option maxRecDepth 20000 in
theorem ggX6_isByte_X6_byteAt : GoodIn wsX6_isByte wsX6_byteAt := goodIn_r _ [7, 8, 9, 10, 11, 12, 13, 14] rfl (by decide +kernel)
set_option maxRecDepth 20000 in
theorem gX6_isByte_X6_byteAt : GoodIn wsX6_isByte (wsV RX6 25 RX6 yX6_byteAt wsX6_byteAt) := goodIn_app (goodIn_of _ (by decide +kernel)) ggX6_isByte_X6_byteAt
set_option maxRecDepth 20000 in
theorem ggX6_isWord_J0_length_8abf5 : GoodIn wsX6_isWord wsJ0_length_8abf5 := goodIn_r _ [8, 9, 10, 11, 12, 7, 13, 14, 15] rfl (by decide +kernel)
set_option maxRecDepth 20000 in
theorem gX6_isWord_J0_length_8abf5 : GoodIn wsX6_isWord (wsV RX6 38 RJ0 yJ0_length_8abf5 wsJ0_length_8abf5) := goodIn_app (goodIn_of _ (by decide +kernel)) ggX6_isWord_J0_length_8abf5
set_option maxRecDepth 20000 in
theorem ggX6_isWord_X6_byteAt : GoodIn wsX6_isWord wsX6_byteAt := goodIn_r _ [20, 21, 22, 60, 61, 62, 63, 64] rfl (by decide +kernel)
set_option maxRecDepth 20000 in
theorem gX6_isWord_X6_byteAt : GoodIn wsX6_isWord (wsV RX6 25 RX6 yX6_byteAt wsX6_byteAt) := goodIn_app (goodIn_of _ (by decide +kernel)) ggX6_isWord_X6_byteAt
set_option maxRecDepth 20000 in
theorem ggX6_isWord_J0_charAt_5068e : GoodIn wsX6_isWord wsJ0_charAt_5068e := goodIn_r _ [26, 9, 27, 28, 29, 7, 30, 14, 15, 31, 32, 33, 34, 35, 36, 37, 38, 39, 40, 41, 42, 43, 44, 45, 46, 47, 48, 49, 50, 51, 52, 53, 54, 55, 56, 57, 58, 59] rfl (by decide +kernel)
set_option maxRecDepth 20000 in
theorem gX6_isWord_J0_charAt_5068e : GoodIn wsX6_isWord (wsV RX6 43 RJ0 yJ0_charAt_5068e wsJ0_charAt_5068e) := goodIn_app (goodIn_of _ (by decide +kernel)) ggX6_isWord_J0_charAt_5068e
set_option maxRecDepth 20000 in
theorem ggX6_wordKey_X6_byteAt : GoodIn wsX6_wordKey wsX6_byteAt := goodIn_r _ [8, 9, 10, 11, 12, 13, 14, 15] rfl (by decide +kernel)
set_option maxRecDepth 20000 in
theorem gX6_wordKey_X6_byteAt : GoodIn wsX6_wordKey (wsV RX6 25 RX6 yX6_byteAt wsX6_byteAt) := goodIn_app (goodIn_of _ (by decide +kernel)) ggX6_wordKey_X6_byteAt
set_option maxRecDepth 20000 in
theorem ggX6_numberValue_X6_byteAt : GoodIn wsX6_numberValue wsX6_byteAt := goodIn_r _ [7, 8, 9, 10, 11, 12, 13, 14] rfl (by decide +kernel)
set_option maxRecDepth 20000 in
theorem gX6_numberValue_X6_byteAt : GoodIn wsX6_numberValue (wsV RX6 25 RX6 yX6_byteAt wsX6_byteAt) := goodIn_app (goodIn_of _ (by decide +kernel)) ggX6_numberValue_X6_byteAt
theorem i_in400 {n : Int32} (a : ¬ n < 0) (b : ¬ 400 ≤ n) : vp_in n 400 := by
  rw [i_lt] at a
  rw [i_le] at b
  have h0 : (0 : Int32).toInt = 0 := by decide
  have h1 : (400 : Int32).toInt = 400 := by decide
  rw [h0] at a; rw [h1] at b
  exact vp_in_iff.mpr ⟨by omega, by omega⟩
theorem dgt_nat {c : Int32} (h : dgt c) : ∃ d : Nat, d ≤ 9 ∧ c = nI (48 + d) := by
  obtain ⟨j, h1, h2, e⟩ := is_nat (a := 48) (b := 57) h.1 h.2 (by omega)
  exact ⟨j - 48, by omega, by rw [e, show 48 + (j - 48) = j by omega]⟩
theorem ba_nat {r : Int32} {a tl : Nat} {g f : Nat → Int32} (h : (r = (-1) ∧ (nI a < 0 ∨ nI tl ≤ nI a ∨ 400 ≤ nI a)) ∨ (¬ nI a < 0 ∧ ¬ nI tl ≤ nI a ∧ r = g (nI a).toNatClampNeg)) (htl : tl ≤ 400) (ha : a < 2147483648) (hbf : ∀ i : Nat, i < tl → g i = f i) : r = btF f tl a := by
  rcases h with ⟨e, h | h | h⟩ | ⟨-, h, e⟩
  · exact absurd h (nI_pos (by omega))
  · rw [e, btF_f (by have := n_le (by omega) (by omega) h; omega)]
  · rw [e, btF_f (by have := n_le (a := 400) (b := a) (by omega) (by omega) h; omega)]
  · have hl := n_nle (a := tl) (b := a) (by omega) (by omega) h
    rw [e, nI_clamp (n := a) (by omega), btF_t hl, hbf a hl]
theorem vl_lt5 {f : Nat → Int32} {n b : Nat} (hk : kdF f n b = 2) (h5 : teF f n b ≤ b + 5) : vlN f b (teF f n b - b) < 100000 := by
  have h := vlN_lt (f := f) (b := b) (teF f n b - b) (fun i hi => by
    obtain ⟨d, hd, e⟩ := dgt_nat (te_dg hk (b + i) (by omega) (by omega))
    rw [e, nI_clamp (n := 48 + d) (by omega)]; omega)
  exact Nat.lt_of_lt_of_le h (Nat.le_trans (Nat.pow_le_pow_right (by omega) (show teF f n b - b ≤ 5 by omega)) (by decide))
set_option maxHeartbeats 4000000 in
set_option maxRecDepth 100000 in
theorem s_byteAt (l : Launch) (D : va_G) (ws : va_W) (tys : List (ClassId × FieldType)) (tp ktp tl : Nat) (x1 x2 x3 : Int32) (bb kbb : Nat) (cbb : ClassId) (tbb : Nat) (fbb : Nat → Int32) (a1 : Int32) (etp : ws[ktp]? = some (tp, .inr (6, [.int (nI tl), .int x1, .int x2, .int x3, .ref bb]))) (ebb : ws[kbb]? = some (bb, .inl (cbb, 400, .inl fbb))) (ubb : tys[tbb]? = some (cbb, .int)) : Met l yX6_byteAt wsX6_byteAt ({ frames := 0, cells := 0, slots := 0, locals := 0 }) (va_Pc [.ref tp, .int a1] (fun U => va_P D vwCl ws U.heap ∧ va_K D vwCl tys U)) (vp_Si (fun r => (r = (-1) ∧ (a1 < 0 ∨ nI tl ≤ a1 ∨ 400 ≤ a1)) ∨ (¬ a1 < 0 ∧ ¬ nI tl ≤ a1 ∧ r = fbb a1.toNatClampNeg))) 0 0 (fun _ => False) := by
  refine Met.ofW (cc := cX6_byteAt) (maxL := 2) (ret := (some .int)) (by decide) rfl ?_
  intro p e s m args below meth c s₁ B hml hv
  obtain ⟨rfl, hP, hK⟩ := hv
  have hx := B.exec
  have hb := B.bytes
  have hr := B.returns
  have hts := atoms_spec (ws := wsX6_byteAt) B.pre
  have hown : s.vm.findClass RX6 = some m.cls := findClass_of_methodNamed B.named
  have hlocks := B.notSynchronized
  have hin6 : ∀ w ∈ u_ws RX6 TX6 5, w ∈ wsX6_byteAt := (fun _ h9 => List.mem_cons_of_mem _ ((List.mem_append_right _ h9)))
  have hl := lv_entry ([.ref tp, .int a1]) (n := 2) (Nat.le_of_ble_eq_true rfl)
  rw [lg_entry_eq]
  generalize (lg_sl ([.ref tp, .int a1]) ++ List.replicate (2 - (lg_sl ([.ref tp, .int a1])).length) Slot.unset).toArray = ls at hl ⊢
  have hl : lv_has ls 2 [(0, .ref tp), (1, .int a1)] := hl
  refine lv_iload_n hx hb dX6_byteAt_0 rfl (lv_at hl 1 rfl) ?_
  refine lv_if_lt (tgt := 30) hx hb dX6_byteAt_1 (by decide) (fun c_1 => ?_) (fun c_1 => ?_)
  · refine lv_iconst (v := (-1)) hx hb dX6_byteAt_30 (by decide) ?_
    exact W.iret (v := (-1)) hx hb hr (fun t ht hW => ⟨(-1), rfl, Or.inl ⟨rfl, Or.inl c_1⟩, ht⟩) (fun _ h9 => by cases h9) dX6_byteAt_31
  refine lv_iload_n hx hb dX6_byteAt_4 rfl (lv_at hl 1 rfl) ?_
  refine lv_aload_n hx hb dX6_byteAt_5 rfl (lv_at hl 0 rfl) ?_
  refine va_get (D := D) (ci := 6) (v := .int (nI tl)) (C := RX6) (T := TX6) (N := 5) hx hb hts hin6 hown hK hP ktp etp rfl 0 (by decide) (hts (.fieldLink RX6 15 "HoneyHouse$Tape" "length" "I") (List.mem_of_getElem? (i := 1) rfl)) (fun _ h9 => h9) rfl dX6_byteAt_6 ?_
  refine lv_icmp_ge (tgt := 30) hx hb dX6_byteAt_9 (by decide) (fun c_2 => ?_) (fun c_2 => ?_)
  · refine lv_iconst (v := (-1)) hx hb dX6_byteAt_30 (by decide) ?_
    exact W.iret (v := (-1)) hx hb hr (fun t ht hW => ⟨(-1), rfl, Or.inl ⟨rfl, Or.inr (Or.inl c_2)⟩, ht⟩) (fun _ h9 => by cases h9) dX6_byteAt_31
  refine lv_iload_n hx hb dX6_byteAt_12 rfl (lv_at hl 1 rfl) ?_
  refine lv_aload_n hx hb dX6_byteAt_13 rfl (lv_at hl 0 rfl) ?_
  refine va_get (D := D) (ci := 6) (v := .ref bb) (C := RX6) (T := TX6) (N := 5) hx hb hts hin6 hown hK hP ktp etp rfl 4 (by decide) (hts (.fieldLink RX6 9 "HoneyHouse$Tape" "bytes" "[I") (List.mem_of_getElem? (i := 2) rfl)) (fun _ h9 => h9) rfl dX6_byteAt_14 ?_
  refine va_alen (v := 400) hx hb hK hP kbb tbb ebb ubb rfl dX6_byteAt_17 ?_
  refine lv_icmp_ge (tgt := 30) hx hb dX6_byteAt_18 (by decide) (fun c_3 => ?_) (fun c_3 => ?_)
  · refine lv_iconst (v := (-1)) hx hb dX6_byteAt_30 (by decide) ?_
    exact W.iret (v := (-1)) hx hb hr (fun t ht hW => ⟨(-1), rfl, Or.inl ⟨rfl, Or.inr (Or.inr (c_3))⟩, ht⟩) (fun _ h9 => by cases h9) dX6_byteAt_31
  refine lv_aload_n hx hb dX6_byteAt_21 rfl (lv_at hl 0 rfl) ?_
  refine va_get (D := D) (ci := 6) (v := .ref bb) (C := RX6) (T := TX6) (N := 5) hx hb hts hin6 hown hK hP ktp etp rfl 4 (by decide) (hts (.fieldLink RX6 9 "HoneyHouse$Tape" "bytes" "[I") (List.mem_of_getElem? (i := 2) rfl)) (fun _ h9 => h9) rfl dX6_byteAt_22 ?_
  refine lv_iload_n hx hb dX6_byteAt_25 rfl (lv_at hl 1 rfl) ?_
  refine va_iald (f := fbb) (n := 400) hx hb hK hP kbb tbb ebb ubb (i_in400 c_1 c_3) dX6_byteAt_26 ?_
  refine lv_goto (tgt := 31) hx hb dX6_byteAt_27 (by decide) ?_
  exact W.iret (v := fbb a1.toNatClampNeg) hx hb hr (fun t ht hW => ⟨fbb a1.toNatClampNeg, rfl, Or.inr ⟨c_1, c_2, rfl⟩, ht⟩) (fun _ h9 => by cases h9) dX6_byteAt_31
set_option maxHeartbeats 4000000 in
set_option maxRecDepth 100000 in
theorem s_kindOf (l : Launch) (n : Int32) : Met l yX6_kindOf wsX6_kindOf ({ frames := 0, cells := 0, slots := 0, locals := 0 }) (va_Pc [.int n] (fun _ => True)) (vp_Si (fun r => r = nI (kq n))) 0 0 (fun _ => False) := by
  refine Met.ofW (cc := cX6_kindOf) (maxL := 1) (ret := (some .int)) (by decide) rfl ?_
  intro p e s m args below meth c s₁ B hml hv
  obtain ⟨rfl, -⟩ := hv
  have hx := B.exec
  have hb := B.bytes
  have hr := B.returns
  have hts := atoms_spec (ws := wsX6_kindOf) B.pre
  have hown : s.vm.findClass RX6 = some m.cls := findClass_of_methodNamed B.named
  have hlocks := B.notSynchronized
  have hl := lv_entry ([.int n]) (n := 1) (Nat.le_of_ble_eq_true rfl)
  rw [lg_entry_eq]
  generalize (lg_sl ([.int n]) ++ List.replicate (1 - (lg_sl ([.int n])).length) Slot.unset).toArray = ls at hl ⊢
  have hl : lv_has ls 1 [(0, .int n)] := hl
  refine lv_iload_n hx hb dX6_kindOf_0 rfl (lv_at hl 0 rfl) ?_
  refine lv_bipush (v := 97) hx hb dX6_kindOf_1 (by decide) ?_
  refine lv_icmp_lt (tgt := 14) hx hb dX6_kindOf_3 (by decide) (fun c_1 => ?_) (fun c_1 => ?_)
  · refine lv_iload_n hx hb dX6_kindOf_14 rfl (lv_at hl 0 rfl) ?_
    refine lv_bipush (v := 48) hx hb dX6_kindOf_15 (by decide) ?_
    refine lv_icmp_lt (tgt := 28) hx hb dX6_kindOf_17 (by decide) (fun c_2 => ?_) (fun c_2 => ?_)
    · refine lv_iload_n hx hb dX6_kindOf_28 rfl (lv_at hl 0 rfl) ?_
      refine lv_bipush (v := 10) hx hb dX6_kindOf_29 (by decide) ?_
      refine lv_icmp_eq (tgt := 40) hx hb dX6_kindOf_31 (by decide) (fun c_3 => ?_) (fun c_3 => ?_)
      · refine lv_iconst (v := 3) hx hb dX6_kindOf_40 (by decide) ?_
        exact W.iret (v := 3) hx hb hr (fun t ht hW => ⟨3, rfl, (by rw [kq_3 (fun q9 => q9.1 c_1) (fun q9 => q9.1 c_2) (Or.inr c_3)]; rfl), ht⟩) (fun _ h9 => by cases h9) dX6_kindOf_41
      refine lv_iload_n hx hb dX6_kindOf_34 rfl (lv_at hl 0 rfl) ?_
      refine lv_bipush (v := 32) hx hb dX6_kindOf_35 (by decide) ?_
      refine lv_icmp_ne (tgt := 42) hx hb dX6_kindOf_37 (by decide) (fun c_4 => ?_) (fun c_4 => ?_)
      · refine lv_iload_n hx hb dX6_kindOf_42 rfl (lv_at hl 0 rfl) ?_
        refine lv_iconst (v := (-1)) hx hb dX6_kindOf_43 (by decide) ?_
        refine lv_icmp_ne (tgt := 51) hx hb dX6_kindOf_44 (by decide) (fun c_5 => ?_) (fun c_5 => ?_)
        · refine lv_iconst (v := 4) hx hb dX6_kindOf_51 (by decide) ?_
          exact W.iret (v := 4) hx hb hr (fun t ht hW => ⟨4, rfl, (by rw [kq_4 (fun q9 => q9.1 c_1) (fun q9 => q9.1 c_2) (fun q9 => q9.elim c_4 c_3) c_5]; rfl), ht⟩) (fun _ h9 => by cases h9) dX6_kindOf_52
        refine lv_iconst (v := 0) hx hb dX6_kindOf_47 (by decide) ?_
        refine lv_goto (tgt := 52) hx hb dX6_kindOf_48 (by decide) ?_
        exact W.iret (v := 0) hx hb hr (fun t ht hW => ⟨0, rfl, (by rw [kq_0 (fun q9 => q9.1 c_1) (fun q9 => q9.1 c_2) (fun q9 => q9.elim c_4 c_3) c_5]; rfl), ht⟩) (fun _ h9 => by cases h9) dX6_kindOf_52
      refine lv_iconst (v := 3) hx hb dX6_kindOf_40 (by decide) ?_
      exact W.iret (v := 3) hx hb hr (fun t ht hW => ⟨3, rfl, (by rw [kq_3 (fun q9 => q9.1 c_1) (fun q9 => q9.1 c_2) (Or.inl c_4)]; rfl), ht⟩) (fun _ h9 => by cases h9) dX6_kindOf_41
    refine lv_iload_n hx hb dX6_kindOf_20 rfl (lv_at hl 0 rfl) ?_
    refine lv_bipush (v := 57) hx hb dX6_kindOf_21 (by decide) ?_
    refine lv_icmp_gt (tgt := 28) hx hb dX6_kindOf_23 (by decide) (fun c_6 => ?_) (fun c_6 => ?_)
    · refine lv_iload_n hx hb dX6_kindOf_28 rfl (lv_at hl 0 rfl) ?_
      refine lv_bipush (v := 10) hx hb dX6_kindOf_29 (by decide) ?_
      refine lv_icmp_eq (tgt := 40) hx hb dX6_kindOf_31 (by decide) (fun c_7 => ?_) (fun c_7 => ?_)
      · refine lv_iconst (v := 3) hx hb dX6_kindOf_40 (by decide) ?_
        exact W.iret (v := 3) hx hb hr (fun t ht hW => ⟨3, rfl, (by rw [kq_3 (fun q9 => q9.1 c_1) (fun q9 => q9.2 c_6) (Or.inr c_7)]; rfl), ht⟩) (fun _ h9 => by cases h9) dX6_kindOf_41
      refine lv_iload_n hx hb dX6_kindOf_34 rfl (lv_at hl 0 rfl) ?_
      refine lv_bipush (v := 32) hx hb dX6_kindOf_35 (by decide) ?_
      refine lv_icmp_ne (tgt := 42) hx hb dX6_kindOf_37 (by decide) (fun c_8 => ?_) (fun c_8 => ?_)
      · refine lv_iload_n hx hb dX6_kindOf_42 rfl (lv_at hl 0 rfl) ?_
        refine lv_iconst (v := (-1)) hx hb dX6_kindOf_43 (by decide) ?_
        refine lv_icmp_ne (tgt := 51) hx hb dX6_kindOf_44 (by decide) (fun c_9 => ?_) (fun c_9 => ?_)
        · refine lv_iconst (v := 4) hx hb dX6_kindOf_51 (by decide) ?_
          exact W.iret (v := 4) hx hb hr (fun t ht hW => ⟨4, rfl, (by rw [kq_4 (fun q9 => q9.1 c_1) (fun q9 => q9.2 c_6) (fun q9 => q9.elim c_8 c_7) c_9]; rfl), ht⟩) (fun _ h9 => by cases h9) dX6_kindOf_52
        refine lv_iconst (v := 0) hx hb dX6_kindOf_47 (by decide) ?_
        refine lv_goto (tgt := 52) hx hb dX6_kindOf_48 (by decide) ?_
        exact W.iret (v := 0) hx hb hr (fun t ht hW => ⟨0, rfl, (by rw [kq_0 (fun q9 => q9.1 c_1) (fun q9 => q9.2 c_6) (fun q9 => q9.elim c_8 c_7) c_9]; rfl), ht⟩) (fun _ h9 => by cases h9) dX6_kindOf_52
      refine lv_iconst (v := 3) hx hb dX6_kindOf_40 (by decide) ?_
      exact W.iret (v := 3) hx hb hr (fun t ht hW => ⟨3, rfl, (by rw [kq_3 (fun q9 => q9.1 c_1) (fun q9 => q9.2 c_6) (Or.inl c_8)]; rfl), ht⟩) (fun _ h9 => by cases h9) dX6_kindOf_41
    refine lv_iconst (v := 2) hx hb dX6_kindOf_26 (by decide) ?_
    exact W.iret (v := 2) hx hb hr (fun t ht hW => ⟨2, rfl, (by rw [kq_2 (fun q9 => q9.1 c_1) ⟨c_2, c_6⟩]; rfl), ht⟩) (fun _ h9 => by cases h9) dX6_kindOf_27
  refine lv_iload_n hx hb dX6_kindOf_6 rfl (lv_at hl 0 rfl) ?_
  refine lv_bipush (v := 122) hx hb dX6_kindOf_7 (by decide) ?_
  refine lv_icmp_gt (tgt := 14) hx hb dX6_kindOf_9 (by decide) (fun c_10 => ?_) (fun c_10 => ?_)
  · refine lv_iload_n hx hb dX6_kindOf_14 rfl (lv_at hl 0 rfl) ?_
    refine lv_bipush (v := 48) hx hb dX6_kindOf_15 (by decide) ?_
    refine lv_icmp_lt (tgt := 28) hx hb dX6_kindOf_17 (by decide) (fun c_11 => ?_) (fun c_11 => ?_)
    · refine lv_iload_n hx hb dX6_kindOf_28 rfl (lv_at hl 0 rfl) ?_
      refine lv_bipush (v := 10) hx hb dX6_kindOf_29 (by decide) ?_
      refine lv_icmp_eq (tgt := 40) hx hb dX6_kindOf_31 (by decide) (fun c_12 => ?_) (fun c_12 => ?_)
      · refine lv_iconst (v := 3) hx hb dX6_kindOf_40 (by decide) ?_
        exact W.iret (v := 3) hx hb hr (fun t ht hW => ⟨3, rfl, (by rw [kq_3 (fun q9 => q9.2 c_10) (fun q9 => q9.1 c_11) (Or.inr c_12)]; rfl), ht⟩) (fun _ h9 => by cases h9) dX6_kindOf_41
      refine lv_iload_n hx hb dX6_kindOf_34 rfl (lv_at hl 0 rfl) ?_
      refine lv_bipush (v := 32) hx hb dX6_kindOf_35 (by decide) ?_
      refine lv_icmp_ne (tgt := 42) hx hb dX6_kindOf_37 (by decide) (fun c_13 => ?_) (fun c_13 => ?_)
      · refine lv_iload_n hx hb dX6_kindOf_42 rfl (lv_at hl 0 rfl) ?_
        refine lv_iconst (v := (-1)) hx hb dX6_kindOf_43 (by decide) ?_
        refine lv_icmp_ne (tgt := 51) hx hb dX6_kindOf_44 (by decide) (fun c_14 => ?_) (fun c_14 => ?_)
        · refine lv_iconst (v := 4) hx hb dX6_kindOf_51 (by decide) ?_
          exact W.iret (v := 4) hx hb hr (fun t ht hW => ⟨4, rfl, (by rw [kq_4 (fun q9 => q9.2 c_10) (fun q9 => q9.1 c_11) (fun q9 => q9.elim c_13 c_12) c_14]; rfl), ht⟩) (fun _ h9 => by cases h9) dX6_kindOf_52
        refine lv_iconst (v := 0) hx hb dX6_kindOf_47 (by decide) ?_
        refine lv_goto (tgt := 52) hx hb dX6_kindOf_48 (by decide) ?_
        exact W.iret (v := 0) hx hb hr (fun t ht hW => ⟨0, rfl, (by rw [kq_0 (fun q9 => q9.2 c_10) (fun q9 => q9.1 c_11) (fun q9 => q9.elim c_13 c_12) c_14]; rfl), ht⟩) (fun _ h9 => by cases h9) dX6_kindOf_52
      refine lv_iconst (v := 3) hx hb dX6_kindOf_40 (by decide) ?_
      exact W.iret (v := 3) hx hb hr (fun t ht hW => ⟨3, rfl, (by rw [kq_3 (fun q9 => q9.2 c_10) (fun q9 => q9.1 c_11) (Or.inl c_13)]; rfl), ht⟩) (fun _ h9 => by cases h9) dX6_kindOf_41
    refine lv_iload_n hx hb dX6_kindOf_20 rfl (lv_at hl 0 rfl) ?_
    refine lv_bipush (v := 57) hx hb dX6_kindOf_21 (by decide) ?_
    refine lv_icmp_gt (tgt := 28) hx hb dX6_kindOf_23 (by decide) (fun c_15 => ?_) (fun c_15 => ?_)
    · refine lv_iload_n hx hb dX6_kindOf_28 rfl (lv_at hl 0 rfl) ?_
      refine lv_bipush (v := 10) hx hb dX6_kindOf_29 (by decide) ?_
      refine lv_icmp_eq (tgt := 40) hx hb dX6_kindOf_31 (by decide) (fun c_16 => ?_) (fun c_16 => ?_)
      · refine lv_iconst (v := 3) hx hb dX6_kindOf_40 (by decide) ?_
        exact W.iret (v := 3) hx hb hr (fun t ht hW => ⟨3, rfl, (by rw [kq_3 (fun q9 => q9.2 c_10) (fun q9 => q9.2 c_15) (Or.inr c_16)]; rfl), ht⟩) (fun _ h9 => by cases h9) dX6_kindOf_41
      refine lv_iload_n hx hb dX6_kindOf_34 rfl (lv_at hl 0 rfl) ?_
      refine lv_bipush (v := 32) hx hb dX6_kindOf_35 (by decide) ?_
      refine lv_icmp_ne (tgt := 42) hx hb dX6_kindOf_37 (by decide) (fun c_17 => ?_) (fun c_17 => ?_)
      · refine lv_iload_n hx hb dX6_kindOf_42 rfl (lv_at hl 0 rfl) ?_
        refine lv_iconst (v := (-1)) hx hb dX6_kindOf_43 (by decide) ?_
        refine lv_icmp_ne (tgt := 51) hx hb dX6_kindOf_44 (by decide) (fun c_18 => ?_) (fun c_18 => ?_)
        · refine lv_iconst (v := 4) hx hb dX6_kindOf_51 (by decide) ?_
          exact W.iret (v := 4) hx hb hr (fun t ht hW => ⟨4, rfl, (by rw [kq_4 (fun q9 => q9.2 c_10) (fun q9 => q9.2 c_15) (fun q9 => q9.elim c_17 c_16) c_18]; rfl), ht⟩) (fun _ h9 => by cases h9) dX6_kindOf_52
        refine lv_iconst (v := 0) hx hb dX6_kindOf_47 (by decide) ?_
        refine lv_goto (tgt := 52) hx hb dX6_kindOf_48 (by decide) ?_
        exact W.iret (v := 0) hx hb hr (fun t ht hW => ⟨0, rfl, (by rw [kq_0 (fun q9 => q9.2 c_10) (fun q9 => q9.2 c_15) (fun q9 => q9.elim c_17 c_16) c_18]; rfl), ht⟩) (fun _ h9 => by cases h9) dX6_kindOf_52
      refine lv_iconst (v := 3) hx hb dX6_kindOf_40 (by decide) ?_
      exact W.iret (v := 3) hx hb hr (fun t ht hW => ⟨3, rfl, (by rw [kq_3 (fun q9 => q9.2 c_10) (fun q9 => q9.2 c_15) (Or.inl c_17)]; rfl), ht⟩) (fun _ h9 => by cases h9) dX6_kindOf_41
    refine lv_iconst (v := 2) hx hb dX6_kindOf_26 (by decide) ?_
    exact W.iret (v := 2) hx hb hr (fun t ht hW => ⟨2, rfl, (by rw [kq_2 (fun q9 => q9.2 c_10) ⟨c_11, c_15⟩]; rfl), ht⟩) (fun _ h9 => by cases h9) dX6_kindOf_27
  refine lv_iconst (v := 1) hx hb dX6_kindOf_12 (by decide) ?_
  exact W.iret (v := 1) hx hb hr (fun t ht hW => ⟨1, rfl, (by rw [kq_1 ⟨c_1, c_10⟩]; rfl), ht⟩) (fun _ h9 => by cases h9) dX6_kindOf_13
set_option maxHeartbeats 4000000 in
set_option maxRecDepth 100000 in
theorem a_advance (l : Launch) (D : va_G) (ρ : Nat → Nat) (ws : va_W) (tys : List (ClassId × FieldType)) (f9 : Nat → Int32) (tp ktp tl : Nat) (te : Nat) (x1 x2 : Int32) (bb kbb : Nat) (cbb : ClassId) (tbb : Nat) (fbb : Nat → Int32) (sz : Nat) (htl : tl ≤ 400) (hbf : ∀ i : Nat, i < tl → fbb i = f9 i) (hng : ∀ i : Nat, i < tl → ¬ f9 i = -1) (hte : te ≤ tl) (etp : ws[ktp]? = some (tp, .inr (6, [.int (nI tl), .int x1, .int x2, .int (nI te), .ref bb]))) (ebb : ws[kbb]? = some (bb, .inl (cbb, 400, .inl fbb))) (ubb : tys[tbb]? = some (cbb, .int))(hkb : ρ kbb ≠ 0)  (w_ktp : ρ ktp = 0) : Met l yX6_advance wsX6_advance ({ frames := 1, cells := 0, slots := 0, locals := 21 }) (va_Pc [.ref tp] (fun U => U.heap.size = sz ∧ va_P D vwCl ws U.heap ∧ va_K D vwCl tys U ∧ va_D (fun _ => True) ws)) (va_Qv (fun _ : Unit => True) (fun (_ : Unit) (t : State) => ∃ (ws' : va_W) (tys' : List (ClassId × FieldType)), sm ρ [6] ws ws' ∧ tyx tys tys' ∧ va_P D vwCl ws' t.heap ∧ va_K D vwCl tys' t ∧ va_D (va_A ws sz) ws' ∧ (ws'[ktp]? = some (tp, .inr (6, [.int (nI tl), .int (nI (kdF f9 tl (skB f9 tl te))), .int (nI (skB f9 tl te)), .int (nI (teF f9 tl (skB f9 tl te))), .ref bb])))) (va_A ws sz)) 0 0 (va_A ws sz) := by
  refine Met.ofW (cc := cX6_advance) (maxL := 3) (ret := none) (by decide) rfl ?_
  intro p e s m args below meth c s₁ B hml hv
  obtain ⟨rfl, hsz, hP, hK, hD0⟩ := hv
  have hx := B.exec
  have hb := B.bytes
  have hr := B.returns
  have hts := atoms_spec (ws := wsX6_advance) B.pre
  have hown : s.vm.findClass RX6 = some m.cls := findClass_of_methodNamed B.named
  have hlocks := B.notSynchronized
  subst hsz
  have hD := hD0.self (sz := s.heap.size)
  generalize hAe : va_A ws s.heap.size = A at hD ⊢
  have hA : ∀ q : Nat, s.heap.size ≤ q → A q := fun q h => by rw [← hAe]; exact Or.inr h
  have hS : va_S A s.heap s.heap [] := va_S.rf
  have hsm : sm ρ [6] ws ws := sm.rf ws
  have htx : tyx tys tys := tyx.rf tys
  have hin6 : ∀ w ∈ u_ws RX6 TX6 5, w ∈ wsX6_advance := (fun _ h9 => List.mem_cons_of_mem _ ((List.mem_append_right _ h9)))
  have hl := lv_entry ([.ref tp]) (n := 3) (Nat.le_of_ble_eq_true rfl)
  rw [lg_entry_eq]
  generalize (lg_sl ([.ref tp]) ++ List.replicate (3 - (lg_sl ([.ref tp])).length) Slot.unset).toArray = ls at hl ⊢
  have hl : lv_has ls 3 [(0, .ref tp)] := hl
  refine lv_aload_n hx hb dX6_advance_0 rfl (lv_at hl 0 rfl) ?_
  refine va_get (D := D) (ci := 6) (v := .int (nI te)) (C := RX6) (T := TX6) (N := 5) hx hb hts hin6 hown hK hP ktp etp rfl 3 (by decide) (hts (.fieldLink RX6 19 "HoneyHouse$Tape" "end" "I") (List.mem_of_getElem? (i := 1) rfl)) (fun _ h9 => h9) rfl dX6_advance_1 ?_
  refine lv_istore_n (lv' := [(1, .int (nI te)), (0, .ref tp)]) hx hb dX6_advance_4 rfl hl (by decide) rfl (fun ls hl => ?_)
  refine lp_V (nL := 3) (σ := Nat) (lv := fun x9 => [(1, .int (nI x9)), (0, .ref tp)]) (μ := fun x9 => tl - x9) (J := fun x9 ws9 => sm ρ [6] ws ws9 ∧ (ws9[ktp]? = some (tp, .inr (6, [.int (nI tl), .int x1, .int x2, .int (nI te), .ref bb]))) ∧ (te ≤ x9 ∧ x9 ≤ tl) ∧ (∀ i : Nat, te ≤ i → i < x9 → blk (f9 i))) (fun x9 ws_5 H locs ls hj hP hD hS hl ih_1 => ?_) te ws _ _ ls ⟨sm.rf _, etp, (show te ≤ te ∧ te ≤ tl from by omega), (show ∀ i : Nat, te ≤ i → i < te → blk (f9 i) from fun i h1 h2 => absurd h2 (by omega))⟩ hP hD hS (lv_sub hl [0, 1] rfl)
  obtain ⟨a_2, hx9⟩ : ∃ y9, y9 = x9 := ⟨_, rfl⟩
  subst hx9
  replace hj : sm ρ [6] ws ws_5 ∧ (ws_5[ktp]? = some (tp, .inr (6, [.int (nI tl), .int x1, .int x2, .int (nI te), .ref bb]))) ∧ (te ≤ a_2 ∧ a_2 ≤ tl) ∧ (∀ i : Nat, te ≤ i → i < a_2 → blk (f9 i)) := hj
  obtain ⟨hm_6, e_8, ha_3, hb9_4⟩ := hj
  obtain ⟨g_10, e_9, h_11⟩ := hm_6.obj etp
  obtain ⟨z_12, z_13, z_14, z_15, rfl⟩ := smX6 h_11
  have e_16 := hm_6.keep hkb ebb
  have hsm := hsm.tr (hm_6.mono (by decide))
  have hlp_7 := hm_6
  have hl : lv_has ls 3 [(1, .int (nI a_2)), (0, .ref tp)] := hl
  refine lv_iload_n hx hb dX6_advance_5 rfl (lv_at hl 0 rfl) ?_
  refine lv_aload_n hx hb dX6_advance_6 rfl (lv_at hl 1 rfl) ?_
  refine va_get (D := D) (ci := 6) (v := .int (nI tl)) (C := RX6) (T := TX6) (N := 5) hx hb hts hin6 hown hK hP ktp e_8 rfl 0 (by decide) (hts (.fieldLink RX6 15 "HoneyHouse$Tape" "length" "I") (List.mem_of_getElem? (i := 2) rfl)) (fun _ h9 => h9) rfl dX6_advance_7 ?_
  refine lv_icmp_ge (tgt := 31) hx hb dX6_advance_10 (by decide) (fun c_17 => ?_) (fun c_17 => ?_)
  · have d_18 := n_le (a := tl) (b := a_2) (by omega) (by omega) c_17
    have hnb : a_2 = tl ∨ ¬ blk (f9 a_2) := Or.inl (by omega)
    have hsk : skB f9 tl te = a_2 := isRn.eq ⟨by omega, by omega, hb9_4, hnb⟩
    have hkl := kdF_le (f := f9) (n := tl) (b := a_2)
    refine lv_aload_n hx hb dX6_advance_31 rfl (lv_at hl 1 rfl) ?_
    refine lv_iload_n hx hb dX6_advance_32 rfl (lv_at hl 0 rfl) ?_
    refine va_put (D := D) (ci := 6) (v := .int (nI a_2)) (ty := .int) (C := RX6) (T := TX6) (N := 5) hx hb hts hin6 tyX6 tyX6_ok nmX6 hown hK hP hD hS ktp e_8 rfl 2 (by decide) (hts (.fieldLink RX6 32 "HoneyHouse$Tape" "start" "I") (List.mem_of_getElem? (i := 3) rfl)) (fun _ h9 => h9) rfl (tyX6_ok 2 (by decide)) rfl rfl (Nat.le_of_ble_eq_true rfl) dX6_advance_33 (fun H locs hP hD hS => ?_)
    have hP : va_P D vwCl (ws_5.set ktp (tp, .inr (6, [.int (nI tl), .int x1, .int (nI a_2), .int (nI te), .ref bb]))) H := hP
    have hD : va_D A (ws_5.set ktp (tp, .inr (6, [.int (nI tl), .int x1, .int (nI a_2), .int (nI te), .ref bb]))) := hD
    have hm_20 : sm ρ [6] ws_5 (ws_5.set ktp (tp, .inr (6, [.int (nI tl), .int x1, .int (nI a_2), .int (nI te), .ref bb]))) := sm.flds e_8 (smF.c (smV.rf _) (smF.c (smV.rf _) (smF.c (smV.i _ _) (smF.c (smV.rf _) (smF.c (smV.rf _) (rfl)))))) (List.mem_singleton.mpr rfl) w_ktp
    have e_21 : (ws_5.set ktp (tp, .inr (6, [.int (nI tl), .int x1, .int (nI a_2), .int (nI te), .ref bb])))[ktp]? = some (tp, .inr (6, [.int (nI tl), .int x1, .int (nI a_2), .int (nI te), .ref bb])) := wset_self e_8
    generalize ws_5.set ktp (tp, .inr (6, [.int (nI tl), .int x1, .int (nI a_2), .int (nI te), .ref bb])) = ws_19 at hP hD hm_20 e_21
    have e_22 := hm_20.keep hkb e_16
    have hsm := hsm.tr (hm_20.mono (by decide))
    have hlp_7 := hlp_7.tr (hm_20.mono (by decide))
    refine lv_aload_n hx hb dX6_advance_36 rfl (lv_at hl 1 rfl) ?_
    refine lv_aload_n hx hb dX6_advance_37 rfl (lv_at hl 1 rfl) ?_
    refine lv_iload_n hx hb dX6_advance_38 rfl (lv_at hl 0 rfl) ?_
    refine vp_callSi (W.runV (As := [.int (nI a_2)]) (rest := [.ref tp]) ⟨hx, hb, hml, hown, hts⟩ (s_byteAt l D ws_19 tys tp ktp tl x1 (nI a_2) (nI te) bb kbb cbb tbb fbb (nI a_2) e_21 e_22 ubb) (cwV 1 hts gX6_advance_X6_byteAt rfl rfl rfl (by decide +kernel) ⟨Nat.le_of_ble_eq_true rfl, Nat.le_of_ble_eq_true rfl⟩) ⟨fun a U g mk q => ⟨q.1, q.2.1, va_K.moved (u := U) (U := U.calling g mk a) (Vm.Alike.refl U.vm) q.2.2⟩, va_recv hK hP (ci := 6) (q0 := ktp) rfl e_21, fun U hU hW => ⟨rfl, by rw [hU]; exact hP, va_K.moved hW.alike hK⟩⟩ rfl rfl hl.1 rfl (lv_room (Nat.le_of_ble_eq_true rfl)) dX6_advance_39 ⟨Nat.le_of_ble_eq_true rfl, Nat.le_of_ble_eq_true rfl⟩) (fun r_23 k_24 => ?_)
    obtain rfl : r_23 = btF f9 tl a_2 := ba_nat k_24 htl (by omega) hbf
    refine vp_callSi (W.runS (As := [.int (btF f9 tl a_2)]) (rest := [.ref tp]) ⟨hx, hb, hml, hown, hts⟩ (s_kindOf l (btF f9 tl a_2)) (va_cwS 1 hts gX6_advance_X6_kindOf rfl rfl rfl (by decide +kernel) ⟨Nat.le_of_ble_eq_true rfl, Nat.le_of_ble_eq_true rfl⟩) ⟨fun a U g mk q => q, fun U hU hW => ⟨rfl, trivial⟩⟩ rfl rfl hl.1 rfl (lv_room (Nat.le_of_ble_eq_true rfl)) dX6_advance_42 ⟨Nat.le_of_ble_eq_true rfl, Nat.le_of_ble_eq_true rfl⟩) (fun r_25 k_26 => ?_)
    obtain rfl : r_25 = nI (kdF f9 tl a_2) := k_26.trans (congrArg nI (kq_bt ⟨by omega, hnb⟩ hng))
    refine va_put (D := D) (ci := 6) (v := .int (nI (kdF f9 tl a_2))) (ty := .int) (C := RX6) (T := TX6) (N := 5) hx hb hts hin6 tyX6 tyX6_ok nmX6 hown hK hP hD hS ktp e_21 rfl 1 (by decide) (hts (.fieldLink RX6 35 "HoneyHouse$Tape" "kind" "I") (List.mem_of_getElem? (i := 4) rfl)) (fun _ h9 => h9) rfl (tyX6_ok 1 (by decide)) rfl rfl (Nat.le_of_ble_eq_true rfl) dX6_advance_45 (fun H locs hP hD hS => ?_)
    have hP : va_P D vwCl (ws_19.set ktp (tp, .inr (6, [.int (nI tl), .int (nI (kdF f9 tl a_2)), .int (nI a_2), .int (nI te), .ref bb]))) H := hP
    have hD : va_D A (ws_19.set ktp (tp, .inr (6, [.int (nI tl), .int (nI (kdF f9 tl a_2)), .int (nI a_2), .int (nI te), .ref bb]))) := hD
    have hm_28 : sm ρ [6] ws_19 (ws_19.set ktp (tp, .inr (6, [.int (nI tl), .int (nI (kdF f9 tl a_2)), .int (nI a_2), .int (nI te), .ref bb]))) := sm.flds e_21 (smF.c (smV.rf _) (smF.c (smV.i _ _) (smF.c (smV.rf _) (smF.c (smV.rf _) (smF.c (smV.rf _) (rfl)))))) (List.mem_singleton.mpr rfl) w_ktp
    have e_29 : (ws_19.set ktp (tp, .inr (6, [.int (nI tl), .int (nI (kdF f9 tl a_2)), .int (nI a_2), .int (nI te), .ref bb])))[ktp]? = some (tp, .inr (6, [.int (nI tl), .int (nI (kdF f9 tl a_2)), .int (nI a_2), .int (nI te), .ref bb])) := wset_self e_21
    generalize ws_19.set ktp (tp, .inr (6, [.int (nI tl), .int (nI (kdF f9 tl a_2)), .int (nI a_2), .int (nI te), .ref bb])) = ws_27 at hP hD hm_28 e_29
    have e_30 := hm_28.keep hkb e_22
    have hsm := hsm.tr (hm_28.mono (by decide))
    have hlp_7 := hlp_7.tr (hm_28.mono (by decide))
    refine lv_aload_n hx hb dX6_advance_48 rfl (lv_at hl 1 rfl) ?_
    refine lv_aload_n hx hb dX6_advance_49 rfl (lv_at hl 1 rfl) ?_
    refine va_get (D := D) (ci := 6) (v := .int (nI (kdF f9 tl a_2))) (C := RX6) (T := TX6) (N := 5) hx hb hts hin6 hown hK hP ktp e_29 rfl 1 (by decide) (hts (.fieldLink RX6 35 "HoneyHouse$Tape" "kind" "I") (List.mem_of_getElem? (i := 4) rfl)) (fun _ h9 => h9) rfl dX6_advance_50 ?_
    refine lv_if_ne (tgt := 60) hx hb dX6_advance_53 (by decide) (fun c_31 => ?_) (fun c_31 => ?_)
    · have d_32 := n_ne (a := kdF f9 tl a_2) (b := 0) (by omega) (by omega) c_31
      have hlt : a_2 < tl := kdF_lt (f := f9) d_32
      refine lv_iload_n hx hb dX6_advance_60 rfl (lv_at hl 0 rfl) ?_
      refine lv_iconst (v := 1) hx hb dX6_advance_61 (by decide) ?_
      refine lv_iadd hx hb dX6_advance_62 ?_
      refine tp_i (y := nI (a_2 + 1)) (nI_add a_2 1) ?_
      refine va_put (D := D) (ci := 6) (v := .int (nI (a_2 + 1))) (ty := .int) (C := RX6) (T := TX6) (N := 5) hx hb hts hin6 tyX6 tyX6_ok nmX6 hown hK hP hD hS ktp e_29 rfl 3 (by decide) (hts (.fieldLink RX6 19 "HoneyHouse$Tape" "end" "I") (List.mem_of_getElem? (i := 1) rfl)) (fun _ h9 => h9) rfl (tyX6_ok 3 (by decide)) rfl rfl (Nat.le_of_ble_eq_true rfl) dX6_advance_63 (fun H locs hP hD hS => ?_)
      have hP : va_P D vwCl (ws_27.set ktp (tp, .inr (6, [.int (nI tl), .int (nI (kdF f9 tl a_2)), .int (nI a_2), .int (nI (a_2 + 1)), .ref bb]))) H := hP
      have hD : va_D A (ws_27.set ktp (tp, .inr (6, [.int (nI tl), .int (nI (kdF f9 tl a_2)), .int (nI a_2), .int (nI (a_2 + 1)), .ref bb]))) := hD
      have hm_34 : sm ρ [6] ws_27 (ws_27.set ktp (tp, .inr (6, [.int (nI tl), .int (nI (kdF f9 tl a_2)), .int (nI a_2), .int (nI (a_2 + 1)), .ref bb]))) := sm.flds e_29 (smF.c (smV.rf _) (smF.c (smV.rf _) (smF.c (smV.rf _) (smF.c (smV.i _ _) (smF.c (smV.rf _) (rfl)))))) (List.mem_singleton.mpr rfl) w_ktp
      have e_35 : (ws_27.set ktp (tp, .inr (6, [.int (nI tl), .int (nI (kdF f9 tl a_2)), .int (nI a_2), .int (nI (a_2 + 1)), .ref bb])))[ktp]? = some (tp, .inr (6, [.int (nI tl), .int (nI (kdF f9 tl a_2)), .int (nI a_2), .int (nI (a_2 + 1)), .ref bb])) := wset_self e_29
      generalize ws_27.set ktp (tp, .inr (6, [.int (nI tl), .int (nI (kdF f9 tl a_2)), .int (nI a_2), .int (nI (a_2 + 1)), .ref bb])) = ws_33 at hP hD hm_34 e_35
      have e_36 := hm_34.keep hkb e_30
      have hsm := hsm.tr (hm_34.mono (by decide))
      have hlp_7 := hlp_7.tr (hm_34.mono (by decide))
      refine lv_aload_n hx hb dX6_advance_66 rfl (lv_at hl 1 rfl) ?_
      refine va_get (D := D) (ci := 6) (v := .int (nI (kdF f9 tl a_2))) (C := RX6) (T := TX6) (N := 5) hx hb hts hin6 hown hK hP ktp e_35 rfl 1 (by decide) (hts (.fieldLink RX6 35 "HoneyHouse$Tape" "kind" "I") (List.mem_of_getElem? (i := 4) rfl)) (fun _ h9 => h9) rfl dX6_advance_67 ?_
      refine lv_iconst (v := 1) hx hb dX6_advance_70 (by decide) ?_
      refine lv_icmp_eq (tgt := 82) hx hb dX6_advance_71 (by decide) (fun c_37 => ?_) (fun c_37 => ?_)
      · have d_38 := n_eq (a := kdF f9 tl a_2) (b := 1) (by omega) (by omega) c_37
        refine lv_iconst (v := 1) hx hb dX6_advance_82 (by decide) ?_
        refine lv_goto (tgt := 87) hx hb dX6_advance_83 (by decide) ?_
        refine lv_istore_n (lv' := [(2, .int 1), (1, .int (nI a_2)), (0, .ref tp)]) hx hb dX6_advance_87 rfl hl (by decide) rfl (fun ls hl => ?_)
        refine lp_V (nL := 3) (σ := Nat) (lv := fun x9 => [(2, .int 1), (0, .ref tp)]) (μ := fun x9 => tl - x9) (J := fun x9 ws9 => sm ρ [6] ws_33 ws9 ∧ (ws9[ktp]? = some (tp, .inr (6, [.int (nI tl), .int (nI (kdF f9 tl a_2)), .int (nI a_2), .int (nI x9), .ref bb]))) ∧ (a_2 ≤ x9 ∧ x9 ≤ tl) ∧ (∀ i : Nat, a_2 ≤ i → i < x9 → kq (f9 i) = kdF f9 tl a_2)) (fun x9 ws_43 H locs ls hj hP hD hS hl ih_39 => ?_) (a_2 + 1) ws_33 _ _ ls ⟨sm.rf _, e_35, (show a_2 ≤ (a_2 + 1) ∧ (a_2 + 1) ≤ tl from by omega), (show ∀ i : Nat, a_2 ≤ i → i < (a_2 + 1) → kq (f9 i) = kdF f9 tl a_2 from fun i h1 h2 => by rw [show i = a_2 by omega]; exact kq_kd hlt (hng _ hlt) (hnb.elim (fun q9 => by omega) id))⟩ hP hD hS (lv_sub hl [0, 2] rfl)
        obtain ⟨e9_40, hx9⟩ : ∃ y9, y9 = x9 := ⟨_, rfl⟩
        subst hx9
        replace hj : sm ρ [6] ws_33 ws_43 ∧ (ws_43[ktp]? = some (tp, .inr (6, [.int (nI tl), .int (nI (kdF f9 tl a_2)), .int (nI a_2), .int (nI e9_40), .ref bb]))) ∧ (a_2 ≤ e9_40 ∧ e9_40 ≤ tl) ∧ (∀ i : Nat, a_2 ≤ i → i < e9_40 → kq (f9 i) = kdF f9 tl a_2) := hj
        obtain ⟨hm_44, e_46, he_41, hr9_42⟩ := hj
        obtain ⟨g_48, e_47, h_49⟩ := hm_44.obj e_35
        obtain ⟨z_50, z_51, z_52, z_53, rfl⟩ := smX6 h_49
        have e_54 := hm_44.keep hkb e_36
        have hsm := hsm.tr (hm_44.mono (by decide))
        have hlp_7 := hlp_7.tr (hm_44.mono (by decide))
        have hlp_45 := hm_44
        have hl : lv_has ls 3 [(2, .int 1), (0, .ref tp)] := hl
        refine lv_iload_n hx hb dX6_advance_88 rfl (lv_at hl 0 rfl) ?_
        refine lv_if_eq (tgt := 134) hx hb dX6_advance_89 (by decide) (fun c_55 => absurd c_55 (by decide)) (fun c_55 => ?_)
        refine lv_aload_n hx hb dX6_advance_92 rfl (lv_at hl 1 rfl) ?_
        refine va_get (D := D) (ci := 6) (v := .int (nI e9_40)) (C := RX6) (T := TX6) (N := 5) hx hb hts hin6 hown hK hP ktp e_46 rfl 3 (by decide) (hts (.fieldLink RX6 19 "HoneyHouse$Tape" "end" "I") (List.mem_of_getElem? (i := 1) rfl)) (fun _ h9 => h9) rfl dX6_advance_93 ?_
        refine lv_aload_n hx hb dX6_advance_96 rfl (lv_at hl 1 rfl) ?_
        refine va_get (D := D) (ci := 6) (v := .int (nI tl)) (C := RX6) (T := TX6) (N := 5) hx hb hts hin6 hown hK hP ktp e_46 rfl 0 (by decide) (hts (.fieldLink RX6 15 "HoneyHouse$Tape" "length" "I") (List.mem_of_getElem? (i := 2) rfl)) (fun _ h9 => h9) rfl dX6_advance_97 ?_
        refine lv_icmp_ge (tgt := 134) hx hb dX6_advance_100 (by decide) (fun c_56 => ?_) (fun c_56 => ?_)
        · have d_57 := n_le (a := tl) (b := e9_40) (by omega) (by omega) c_56
          exact W.vret hx hb hr (fun t ht hW => ⟨⟨(), rfl, trivial, ws_43, tys, hsm, htx, by rw [ht]; exact hP, va_K.moved hW.alike hK, hD, (by rw [hsk, show teF f9 tl a_2 = e9_40 from te_kq (by omega) (by omega) (by omega) hr9_42 (Or.inl (by omega)) hng]; exact e_46)⟩, hS.F ht⟩) hS.2.2 dX6_advance_134
        have d_58 := n_nle (a := tl) (b := e9_40) (by omega) (by omega) c_56
        refine lv_aload_n hx hb dX6_advance_103 rfl (lv_at hl 1 rfl) ?_
        refine lv_aload_n hx hb dX6_advance_104 rfl (lv_at hl 1 rfl) ?_
        refine va_get (D := D) (ci := 6) (v := .int (nI e9_40)) (C := RX6) (T := TX6) (N := 5) hx hb hts hin6 hown hK hP ktp e_46 rfl 3 (by decide) (hts (.fieldLink RX6 19 "HoneyHouse$Tape" "end" "I") (List.mem_of_getElem? (i := 1) rfl)) (fun _ h9 => h9) rfl dX6_advance_105 ?_
        refine vp_callSi (W.runV (As := [.int (nI e9_40)]) (rest := []) ⟨hx, hb, hml, hown, hts⟩ (s_byteAt l D ws_43 tys tp ktp tl (nI (kdF f9 tl a_2)) (nI a_2) (nI e9_40) bb kbb cbb tbb fbb (nI e9_40) e_46 e_54 ubb) (cwV 1 hts gX6_advance_X6_byteAt rfl rfl rfl (by decide +kernel) ⟨Nat.le_of_ble_eq_true rfl, Nat.le_of_ble_eq_true rfl⟩) ⟨fun a U g mk q => ⟨q.1, q.2.1, va_K.moved (u := U) (U := U.calling g mk a) (Vm.Alike.refl U.vm) q.2.2⟩, va_recv hK hP (ci := 6) (q0 := ktp) rfl e_46, fun U hU hW => ⟨rfl, by rw [hU]; exact hP, va_K.moved hW.alike hK⟩⟩ rfl rfl hl.1 rfl (lv_room (Nat.le_of_ble_eq_true rfl)) dX6_advance_108 ⟨Nat.le_of_ble_eq_true rfl, Nat.le_of_ble_eq_true rfl⟩) (fun r_59 k_60 => ?_)
        obtain rfl : r_59 = btF f9 tl e9_40 := ba_nat k_60 htl (by omega) hbf
        refine vp_callSi (W.runS (As := [.int (btF f9 tl e9_40)]) (rest := []) ⟨hx, hb, hml, hown, hts⟩ (s_kindOf l (btF f9 tl e9_40)) (va_cwS 1 hts gX6_advance_X6_kindOf rfl rfl rfl (by decide +kernel) ⟨Nat.le_of_ble_eq_true rfl, Nat.le_of_ble_eq_true rfl⟩) ⟨fun a U g mk q => q, fun U hU hW => ⟨rfl, trivial⟩⟩ rfl rfl hl.1 rfl (lv_room (Nat.le_of_ble_eq_true rfl)) dX6_advance_111 ⟨Nat.le_of_ble_eq_true rfl, Nat.le_of_ble_eq_true rfl⟩) (fun r_61 k_62 => ?_)
        subst k_62; have hk_63 := kq_le (c := btF f9 tl e9_40)
        refine lv_aload_n hx hb dX6_advance_114 rfl (lv_at hl 1 rfl) ?_
        refine va_get (D := D) (ci := 6) (v := .int (nI (kdF f9 tl a_2))) (C := RX6) (T := TX6) (N := 5) hx hb hts hin6 hown hK hP ktp e_46 rfl 1 (by decide) (hts (.fieldLink RX6 35 "HoneyHouse$Tape" "kind" "I") (List.mem_of_getElem? (i := 4) rfl)) (fun _ h9 => h9) rfl dX6_advance_115 ?_
        refine lv_icmp_ne (tgt := 134) hx hb dX6_advance_118 (by decide) (fun c_64 => ?_) (fun c_64 => ?_)
        · have d_65 := n_ne (a := kq (btF f9 tl e9_40)) (b := kdF f9 tl a_2) (by omega) (by omega) c_64
          exact W.vret hx hb hr (fun t ht hW => ⟨⟨(), rfl, trivial, ws_43, tys, hsm, htx, by rw [ht]; exact hP, va_K.moved hW.alike hK, hD, (by rw [hsk, show teF f9 tl a_2 = e9_40 from te_kq (by omega) (by omega) (by omega) hr9_42 (Or.inr (fun q9 => d_65 (by rw [btF_t (by omega)]; exact q9))) hng]; exact e_46)⟩, hS.F ht⟩) hS.2.2 dX6_advance_134
        have d_66 := n_eq (a := kq (btF f9 tl e9_40)) (b := kdF f9 tl a_2) (by omega) (by omega) c_64
        refine lv_aload_n hx hb dX6_advance_121 rfl (lv_at hl 1 rfl) ?_
        refine lv_dup hx hb dX6_advance_122 rfl ?_
        refine va_get (D := D) (ci := 6) (v := .int (nI e9_40)) (C := RX6) (T := TX6) (N := 5) hx hb hts hin6 hown hK hP ktp e_46 rfl 3 (by decide) (hts (.fieldLink RX6 19 "HoneyHouse$Tape" "end" "I") (List.mem_of_getElem? (i := 1) rfl)) (fun _ h9 => h9) rfl dX6_advance_123 ?_
        refine lv_iconst (v := 1) hx hb dX6_advance_126 (by decide) ?_
        refine lv_iadd hx hb dX6_advance_127 ?_
        refine tp_i (y := nI (e9_40 + 1)) (nI_add e9_40 1) ?_
        refine va_put (D := D) (ci := 6) (v := .int (nI (e9_40 + 1))) (ty := .int) (C := RX6) (T := TX6) (N := 5) hx hb hts hin6 tyX6 tyX6_ok nmX6 hown hK hP hD hS ktp e_46 rfl 3 (by decide) (hts (.fieldLink RX6 19 "HoneyHouse$Tape" "end" "I") (List.mem_of_getElem? (i := 1) rfl)) (fun _ h9 => h9) rfl (tyX6_ok 3 (by decide)) rfl rfl (Nat.le_of_ble_eq_true rfl) dX6_advance_128 (fun H locs hP hD hS => ?_)
        have hP : va_P D vwCl (ws_43.set ktp (tp, .inr (6, [.int (nI tl), .int (nI (kdF f9 tl a_2)), .int (nI a_2), .int (nI (e9_40 + 1)), .ref bb]))) H := hP
        have hD : va_D A (ws_43.set ktp (tp, .inr (6, [.int (nI tl), .int (nI (kdF f9 tl a_2)), .int (nI a_2), .int (nI (e9_40 + 1)), .ref bb]))) := hD
        have hm_68 : sm ρ [6] ws_43 (ws_43.set ktp (tp, .inr (6, [.int (nI tl), .int (nI (kdF f9 tl a_2)), .int (nI a_2), .int (nI (e9_40 + 1)), .ref bb]))) := sm.flds e_46 (smF.c (smV.rf _) (smF.c (smV.rf _) (smF.c (smV.rf _) (smF.c (smV.i _ _) (smF.c (smV.rf _) (rfl)))))) (List.mem_singleton.mpr rfl) w_ktp
        have e_69 : (ws_43.set ktp (tp, .inr (6, [.int (nI tl), .int (nI (kdF f9 tl a_2)), .int (nI a_2), .int (nI (e9_40 + 1)), .ref bb])))[ktp]? = some (tp, .inr (6, [.int (nI tl), .int (nI (kdF f9 tl a_2)), .int (nI a_2), .int (nI (e9_40 + 1)), .ref bb])) := wset_self e_46
        generalize ws_43.set ktp (tp, .inr (6, [.int (nI tl), .int (nI (kdF f9 tl a_2)), .int (nI a_2), .int (nI (e9_40 + 1)), .ref bb])) = ws_67 at hP hD hm_68 e_69
        have e_70 := hm_68.keep hkb e_54
        have hsm := hsm.tr (hm_68.mono (by decide))
        have hlp_7 := hlp_7.tr (hm_68.mono (by decide))
        have hlp_45 := hlp_45.tr (hm_68.mono (by decide))
        refine lv_goto (tgt := 88) hx hb dX6_advance_131 (by decide) ?_
        exact ih_39 (e9_40 + 1) ws_67 _ _ ls (by show tl - (e9_40 + 1) < tl - e9_40; omega) ⟨hlp_45, e_69, (show a_2 ≤ (e9_40 + 1) ∧ (e9_40 + 1) ≤ tl from by omega), (show ∀ i : Nat, a_2 ≤ i → i < (e9_40 + 1) → kq (f9 i) = kdF f9 tl a_2 from fun i h1 h2 => (Nat.lt_or_ge i e9_40).elim (fun q9 => hr9_42 i h1 q9) (fun q9 => by rw [show i = e9_40 by omega, ← btF_t (f := f9) (n := tl) (b := e9_40) (by omega)]; exact d_66))⟩ hP hD hS (lv_sub hl [0, 1] rfl)
      have d_71 := n_ne (a := kdF f9 tl a_2) (b := 1) (by omega) (by omega) c_37
      refine lv_aload_n hx hb dX6_advance_74 rfl (lv_at hl 1 rfl) ?_
      refine va_get (D := D) (ci := 6) (v := .int (nI (kdF f9 tl a_2))) (C := RX6) (T := TX6) (N := 5) hx hb hts hin6 hown hK hP ktp e_35 rfl 1 (by decide) (hts (.fieldLink RX6 35 "HoneyHouse$Tape" "kind" "I") (List.mem_of_getElem? (i := 4) rfl)) (fun _ h9 => h9) rfl dX6_advance_75 ?_
      refine lv_iconst (v := 2) hx hb dX6_advance_78 (by decide) ?_
      refine lv_icmp_ne (tgt := 86) hx hb dX6_advance_79 (by decide) (fun c_72 => ?_) (fun c_72 => ?_)
      · have d_73 := n_ne (a := kdF f9 tl a_2) (b := 2) (by omega) (by omega) c_72
        refine lv_iconst (v := 0) hx hb dX6_advance_86 (by decide) ?_
        refine lv_istore_n (lv' := [(2, .int 0), (1, .int (nI a_2)), (0, .ref tp)]) hx hb dX6_advance_87 rfl hl (by decide) rfl (fun ls hl => ?_)
        refine lp_V (nL := 3) (σ := Nat) (lv := fun x9 => [(2, .int 0), (0, .ref tp)]) (μ := fun x9 => tl - x9) (J := fun x9 ws9 => sm ρ [6] ws_33 ws9 ∧ (ws9[ktp]? = some (tp, .inr (6, [.int (nI tl), .int (nI (kdF f9 tl a_2)), .int (nI a_2), .int (nI x9), .ref bb]))) ∧ (a_2 ≤ x9 ∧ x9 ≤ tl) ∧ (∀ i : Nat, a_2 ≤ i → i < x9 → kq (f9 i) = kdF f9 tl a_2) ∧ (x9 = a_2 + 1)) (fun x9 ws_79 H locs ls hj hP hD hS hl ih_74 => ?_) (a_2 + 1) ws_33 _ _ ls ⟨sm.rf _, e_35, (show a_2 ≤ (a_2 + 1) ∧ (a_2 + 1) ≤ tl from by omega), (show ∀ i : Nat, a_2 ≤ i → i < (a_2 + 1) → kq (f9 i) = kdF f9 tl a_2 from fun i h1 h2 => by rw [show i = a_2 by omega]; exact kq_kd hlt (hng _ hlt) (hnb.elim (fun q9 => by omega) id)), (show (a_2 + 1) = a_2 + 1 from rfl)⟩ hP hD hS (lv_sub hl [0, 2] rfl)
        obtain ⟨e9_75, hx9⟩ : ∃ y9, y9 = x9 := ⟨_, rfl⟩
        subst hx9
        replace hj : sm ρ [6] ws_33 ws_79 ∧ (ws_79[ktp]? = some (tp, .inr (6, [.int (nI tl), .int (nI (kdF f9 tl a_2)), .int (nI a_2), .int (nI e9_75), .ref bb]))) ∧ (a_2 ≤ e9_75 ∧ e9_75 ≤ tl) ∧ (∀ i : Nat, a_2 ≤ i → i < e9_75 → kq (f9 i) = kdF f9 tl a_2) ∧ (e9_75 = a_2 + 1) := hj
        obtain ⟨hm_80, e_82, he_76, hr9_77, hnr_78⟩ := hj
        obtain ⟨g_84, e_83, h_85⟩ := hm_80.obj e_35
        obtain ⟨z_86, z_87, z_88, z_89, rfl⟩ := smX6 h_85
        have e_90 := hm_80.keep hkb e_36
        have hsm := hsm.tr (hm_80.mono (by decide))
        have hlp_7 := hlp_7.tr (hm_80.mono (by decide))
        have hlp_81 := hm_80
        have hl : lv_has ls 3 [(2, .int 0), (0, .ref tp)] := hl
        refine lv_iload_n hx hb dX6_advance_88 rfl (lv_at hl 0 rfl) ?_
        refine lv_if_eq (tgt := 134) hx hb dX6_advance_89 (by decide) (fun c_91 => ?_) (fun c_91 => absurd (by decide) c_91)
        exact W.vret hx hb hr (fun t ht hW => ⟨⟨(), rfl, trivial, ws_79, tys, hsm, htx, by rw [ht]; exact hP, va_K.moved hW.alike hK, hD, (by rw [hsk, show teF f9 tl a_2 = e9_75 from (te_o (by omega) (by omega) (by omega)).trans (show a_2 + 1 = e9_75 by omega)]; exact e_82)⟩, hS.F ht⟩) hS.2.2 dX6_advance_134
      have d_92 := n_eq (a := kdF f9 tl a_2) (b := 2) (by omega) (by omega) c_72
      refine lv_iconst (v := 1) hx hb dX6_advance_82 (by decide) ?_
      refine lv_goto (tgt := 87) hx hb dX6_advance_83 (by decide) ?_
      refine lv_istore_n (lv' := [(2, .int 1), (1, .int (nI a_2)), (0, .ref tp)]) hx hb dX6_advance_87 rfl hl (by decide) rfl (fun ls hl => ?_)
      refine lp_V (nL := 3) (σ := Nat) (lv := fun x9 => [(2, .int 1), (0, .ref tp)]) (μ := fun x9 => tl - x9) (J := fun x9 ws9 => sm ρ [6] ws_33 ws9 ∧ (ws9[ktp]? = some (tp, .inr (6, [.int (nI tl), .int (nI (kdF f9 tl a_2)), .int (nI a_2), .int (nI x9), .ref bb]))) ∧ (a_2 ≤ x9 ∧ x9 ≤ tl) ∧ (∀ i : Nat, a_2 ≤ i → i < x9 → kq (f9 i) = kdF f9 tl a_2)) (fun x9 ws_97 H locs ls hj hP hD hS hl ih_93 => ?_) (a_2 + 1) ws_33 _ _ ls ⟨sm.rf _, e_35, (show a_2 ≤ (a_2 + 1) ∧ (a_2 + 1) ≤ tl from by omega), (show ∀ i : Nat, a_2 ≤ i → i < (a_2 + 1) → kq (f9 i) = kdF f9 tl a_2 from fun i h1 h2 => by rw [show i = a_2 by omega]; exact kq_kd hlt (hng _ hlt) (hnb.elim (fun q9 => by omega) id))⟩ hP hD hS (lv_sub hl [0, 2] rfl)
      obtain ⟨e9_94, hx9⟩ : ∃ y9, y9 = x9 := ⟨_, rfl⟩
      subst hx9
      replace hj : sm ρ [6] ws_33 ws_97 ∧ (ws_97[ktp]? = some (tp, .inr (6, [.int (nI tl), .int (nI (kdF f9 tl a_2)), .int (nI a_2), .int (nI e9_94), .ref bb]))) ∧ (a_2 ≤ e9_94 ∧ e9_94 ≤ tl) ∧ (∀ i : Nat, a_2 ≤ i → i < e9_94 → kq (f9 i) = kdF f9 tl a_2) := hj
      obtain ⟨hm_98, e_100, he_95, hr9_96⟩ := hj
      obtain ⟨g_102, e_101, h_103⟩ := hm_98.obj e_35
      obtain ⟨z_104, z_105, z_106, z_107, rfl⟩ := smX6 h_103
      have e_108 := hm_98.keep hkb e_36
      have hsm := hsm.tr (hm_98.mono (by decide))
      have hlp_7 := hlp_7.tr (hm_98.mono (by decide))
      have hlp_99 := hm_98
      have hl : lv_has ls 3 [(2, .int 1), (0, .ref tp)] := hl
      refine lv_iload_n hx hb dX6_advance_88 rfl (lv_at hl 0 rfl) ?_
      refine lv_if_eq (tgt := 134) hx hb dX6_advance_89 (by decide) (fun c_109 => absurd c_109 (by decide)) (fun c_109 => ?_)
      refine lv_aload_n hx hb dX6_advance_92 rfl (lv_at hl 1 rfl) ?_
      refine va_get (D := D) (ci := 6) (v := .int (nI e9_94)) (C := RX6) (T := TX6) (N := 5) hx hb hts hin6 hown hK hP ktp e_100 rfl 3 (by decide) (hts (.fieldLink RX6 19 "HoneyHouse$Tape" "end" "I") (List.mem_of_getElem? (i := 1) rfl)) (fun _ h9 => h9) rfl dX6_advance_93 ?_
      refine lv_aload_n hx hb dX6_advance_96 rfl (lv_at hl 1 rfl) ?_
      refine va_get (D := D) (ci := 6) (v := .int (nI tl)) (C := RX6) (T := TX6) (N := 5) hx hb hts hin6 hown hK hP ktp e_100 rfl 0 (by decide) (hts (.fieldLink RX6 15 "HoneyHouse$Tape" "length" "I") (List.mem_of_getElem? (i := 2) rfl)) (fun _ h9 => h9) rfl dX6_advance_97 ?_
      refine lv_icmp_ge (tgt := 134) hx hb dX6_advance_100 (by decide) (fun c_110 => ?_) (fun c_110 => ?_)
      · have d_111 := n_le (a := tl) (b := e9_94) (by omega) (by omega) c_110
        exact W.vret hx hb hr (fun t ht hW => ⟨⟨(), rfl, trivial, ws_97, tys, hsm, htx, by rw [ht]; exact hP, va_K.moved hW.alike hK, hD, (by rw [hsk, show teF f9 tl a_2 = e9_94 from te_kq (by omega) (by omega) (by omega) hr9_96 (Or.inl (by omega)) hng]; exact e_100)⟩, hS.F ht⟩) hS.2.2 dX6_advance_134
      have d_112 := n_nle (a := tl) (b := e9_94) (by omega) (by omega) c_110
      refine lv_aload_n hx hb dX6_advance_103 rfl (lv_at hl 1 rfl) ?_
      refine lv_aload_n hx hb dX6_advance_104 rfl (lv_at hl 1 rfl) ?_
      refine va_get (D := D) (ci := 6) (v := .int (nI e9_94)) (C := RX6) (T := TX6) (N := 5) hx hb hts hin6 hown hK hP ktp e_100 rfl 3 (by decide) (hts (.fieldLink RX6 19 "HoneyHouse$Tape" "end" "I") (List.mem_of_getElem? (i := 1) rfl)) (fun _ h9 => h9) rfl dX6_advance_105 ?_
      refine vp_callSi (W.runV (As := [.int (nI e9_94)]) (rest := []) ⟨hx, hb, hml, hown, hts⟩ (s_byteAt l D ws_97 tys tp ktp tl (nI (kdF f9 tl a_2)) (nI a_2) (nI e9_94) bb kbb cbb tbb fbb (nI e9_94) e_100 e_108 ubb) (cwV 1 hts gX6_advance_X6_byteAt rfl rfl rfl (by decide +kernel) ⟨Nat.le_of_ble_eq_true rfl, Nat.le_of_ble_eq_true rfl⟩) ⟨fun a U g mk q => ⟨q.1, q.2.1, va_K.moved (u := U) (U := U.calling g mk a) (Vm.Alike.refl U.vm) q.2.2⟩, va_recv hK hP (ci := 6) (q0 := ktp) rfl e_100, fun U hU hW => ⟨rfl, by rw [hU]; exact hP, va_K.moved hW.alike hK⟩⟩ rfl rfl hl.1 rfl (lv_room (Nat.le_of_ble_eq_true rfl)) dX6_advance_108 ⟨Nat.le_of_ble_eq_true rfl, Nat.le_of_ble_eq_true rfl⟩) (fun r_113 k_114 => ?_)
      obtain rfl : r_113 = btF f9 tl e9_94 := ba_nat k_114 htl (by omega) hbf
      refine vp_callSi (W.runS (As := [.int (btF f9 tl e9_94)]) (rest := []) ⟨hx, hb, hml, hown, hts⟩ (s_kindOf l (btF f9 tl e9_94)) (va_cwS 1 hts gX6_advance_X6_kindOf rfl rfl rfl (by decide +kernel) ⟨Nat.le_of_ble_eq_true rfl, Nat.le_of_ble_eq_true rfl⟩) ⟨fun a U g mk q => q, fun U hU hW => ⟨rfl, trivial⟩⟩ rfl rfl hl.1 rfl (lv_room (Nat.le_of_ble_eq_true rfl)) dX6_advance_111 ⟨Nat.le_of_ble_eq_true rfl, Nat.le_of_ble_eq_true rfl⟩) (fun r_115 k_116 => ?_)
      subst k_116; have hk_117 := kq_le (c := btF f9 tl e9_94)
      refine lv_aload_n hx hb dX6_advance_114 rfl (lv_at hl 1 rfl) ?_
      refine va_get (D := D) (ci := 6) (v := .int (nI (kdF f9 tl a_2))) (C := RX6) (T := TX6) (N := 5) hx hb hts hin6 hown hK hP ktp e_100 rfl 1 (by decide) (hts (.fieldLink RX6 35 "HoneyHouse$Tape" "kind" "I") (List.mem_of_getElem? (i := 4) rfl)) (fun _ h9 => h9) rfl dX6_advance_115 ?_
      refine lv_icmp_ne (tgt := 134) hx hb dX6_advance_118 (by decide) (fun c_118 => ?_) (fun c_118 => ?_)
      · have d_119 := n_ne (a := kq (btF f9 tl e9_94)) (b := kdF f9 tl a_2) (by omega) (by omega) c_118
        exact W.vret hx hb hr (fun t ht hW => ⟨⟨(), rfl, trivial, ws_97, tys, hsm, htx, by rw [ht]; exact hP, va_K.moved hW.alike hK, hD, (by rw [hsk, show teF f9 tl a_2 = e9_94 from te_kq (by omega) (by omega) (by omega) hr9_96 (Or.inr (fun q9 => d_119 (by rw [btF_t (by omega)]; exact q9))) hng]; exact e_100)⟩, hS.F ht⟩) hS.2.2 dX6_advance_134
      have d_120 := n_eq (a := kq (btF f9 tl e9_94)) (b := kdF f9 tl a_2) (by omega) (by omega) c_118
      refine lv_aload_n hx hb dX6_advance_121 rfl (lv_at hl 1 rfl) ?_
      refine lv_dup hx hb dX6_advance_122 rfl ?_
      refine va_get (D := D) (ci := 6) (v := .int (nI e9_94)) (C := RX6) (T := TX6) (N := 5) hx hb hts hin6 hown hK hP ktp e_100 rfl 3 (by decide) (hts (.fieldLink RX6 19 "HoneyHouse$Tape" "end" "I") (List.mem_of_getElem? (i := 1) rfl)) (fun _ h9 => h9) rfl dX6_advance_123 ?_
      refine lv_iconst (v := 1) hx hb dX6_advance_126 (by decide) ?_
      refine lv_iadd hx hb dX6_advance_127 ?_
      refine tp_i (y := nI (e9_94 + 1)) (nI_add e9_94 1) ?_
      refine va_put (D := D) (ci := 6) (v := .int (nI (e9_94 + 1))) (ty := .int) (C := RX6) (T := TX6) (N := 5) hx hb hts hin6 tyX6 tyX6_ok nmX6 hown hK hP hD hS ktp e_100 rfl 3 (by decide) (hts (.fieldLink RX6 19 "HoneyHouse$Tape" "end" "I") (List.mem_of_getElem? (i := 1) rfl)) (fun _ h9 => h9) rfl (tyX6_ok 3 (by decide)) rfl rfl (Nat.le_of_ble_eq_true rfl) dX6_advance_128 (fun H locs hP hD hS => ?_)
      have hP : va_P D vwCl (ws_97.set ktp (tp, .inr (6, [.int (nI tl), .int (nI (kdF f9 tl a_2)), .int (nI a_2), .int (nI (e9_94 + 1)), .ref bb]))) H := hP
      have hD : va_D A (ws_97.set ktp (tp, .inr (6, [.int (nI tl), .int (nI (kdF f9 tl a_2)), .int (nI a_2), .int (nI (e9_94 + 1)), .ref bb]))) := hD
      have hm_122 : sm ρ [6] ws_97 (ws_97.set ktp (tp, .inr (6, [.int (nI tl), .int (nI (kdF f9 tl a_2)), .int (nI a_2), .int (nI (e9_94 + 1)), .ref bb]))) := sm.flds e_100 (smF.c (smV.rf _) (smF.c (smV.rf _) (smF.c (smV.rf _) (smF.c (smV.i _ _) (smF.c (smV.rf _) (rfl)))))) (List.mem_singleton.mpr rfl) w_ktp
      have e_123 : (ws_97.set ktp (tp, .inr (6, [.int (nI tl), .int (nI (kdF f9 tl a_2)), .int (nI a_2), .int (nI (e9_94 + 1)), .ref bb])))[ktp]? = some (tp, .inr (6, [.int (nI tl), .int (nI (kdF f9 tl a_2)), .int (nI a_2), .int (nI (e9_94 + 1)), .ref bb])) := wset_self e_100
      generalize ws_97.set ktp (tp, .inr (6, [.int (nI tl), .int (nI (kdF f9 tl a_2)), .int (nI a_2), .int (nI (e9_94 + 1)), .ref bb])) = ws_121 at hP hD hm_122 e_123
      have e_124 := hm_122.keep hkb e_108
      have hsm := hsm.tr (hm_122.mono (by decide))
      have hlp_7 := hlp_7.tr (hm_122.mono (by decide))
      have hlp_99 := hlp_99.tr (hm_122.mono (by decide))
      refine lv_goto (tgt := 88) hx hb dX6_advance_131 (by decide) ?_
      exact ih_93 (e9_94 + 1) ws_121 _ _ ls (by show tl - (e9_94 + 1) < tl - e9_94; omega) ⟨hlp_99, e_123, (show a_2 ≤ (e9_94 + 1) ∧ (e9_94 + 1) ≤ tl from by omega), (show ∀ i : Nat, a_2 ≤ i → i < (e9_94 + 1) → kq (f9 i) = kdF f9 tl a_2 from fun i h1 h2 => (Nat.lt_or_ge i e9_94).elim (fun q9 => hr9_96 i h1 q9) (fun q9 => by rw [show i = e9_94 by omega, ← btF_t (f := f9) (n := tl) (b := e9_94) (by omega)]; exact d_120))⟩ hP hD hS (lv_sub hl [0, 1] rfl)
    have d_125 := n_eq (a := kdF f9 tl a_2) (b := 0) (by omega) (by omega) c_31
    refine lv_iload_n hx hb dX6_advance_56 rfl (lv_at hl 0 rfl) ?_
    refine lv_goto (tgt := 63) hx hb dX6_advance_57 (by decide) ?_
    refine va_put (D := D) (ci := 6) (v := .int (nI a_2)) (ty := .int) (C := RX6) (T := TX6) (N := 5) hx hb hts hin6 tyX6 tyX6_ok nmX6 hown hK hP hD hS ktp e_29 rfl 3 (by decide) (hts (.fieldLink RX6 19 "HoneyHouse$Tape" "end" "I") (List.mem_of_getElem? (i := 1) rfl)) (fun _ h9 => h9) rfl (tyX6_ok 3 (by decide)) rfl rfl (Nat.le_of_ble_eq_true rfl) dX6_advance_63 (fun H locs hP hD hS => ?_)
    have hP : va_P D vwCl (ws_27.set ktp (tp, .inr (6, [.int (nI tl), .int (nI (kdF f9 tl a_2)), .int (nI a_2), .int (nI a_2), .ref bb]))) H := hP
    have hD : va_D A (ws_27.set ktp (tp, .inr (6, [.int (nI tl), .int (nI (kdF f9 tl a_2)), .int (nI a_2), .int (nI a_2), .ref bb]))) := hD
    have hm_127 : sm ρ [6] ws_27 (ws_27.set ktp (tp, .inr (6, [.int (nI tl), .int (nI (kdF f9 tl a_2)), .int (nI a_2), .int (nI a_2), .ref bb]))) := sm.flds e_29 (smF.c (smV.rf _) (smF.c (smV.rf _) (smF.c (smV.rf _) (smF.c (smV.i _ _) (smF.c (smV.rf _) (rfl)))))) (List.mem_singleton.mpr rfl) w_ktp
    have e_128 : (ws_27.set ktp (tp, .inr (6, [.int (nI tl), .int (nI (kdF f9 tl a_2)), .int (nI a_2), .int (nI a_2), .ref bb])))[ktp]? = some (tp, .inr (6, [.int (nI tl), .int (nI (kdF f9 tl a_2)), .int (nI a_2), .int (nI a_2), .ref bb])) := wset_self e_29
    generalize ws_27.set ktp (tp, .inr (6, [.int (nI tl), .int (nI (kdF f9 tl a_2)), .int (nI a_2), .int (nI a_2), .ref bb])) = ws_126 at hP hD hm_127 e_128
    have e_129 := hm_127.keep hkb e_30
    have hsm := hsm.tr (hm_127.mono (by decide))
    have hlp_7 := hlp_7.tr (hm_127.mono (by decide))
    refine lv_aload_n hx hb dX6_advance_66 rfl (lv_at hl 1 rfl) ?_
    refine va_get (D := D) (ci := 6) (v := .int (nI (kdF f9 tl a_2))) (C := RX6) (T := TX6) (N := 5) hx hb hts hin6 hown hK hP ktp e_128 rfl 1 (by decide) (hts (.fieldLink RX6 35 "HoneyHouse$Tape" "kind" "I") (List.mem_of_getElem? (i := 4) rfl)) (fun _ h9 => h9) rfl dX6_advance_67 ?_
    refine lv_iconst (v := 1) hx hb dX6_advance_70 (by decide) ?_
    refine lv_icmp_eq (tgt := 82) hx hb dX6_advance_71 (by decide) (fun c_130 => ?_) (fun c_130 => ?_)
    · have d_131 := n_eq (a := kdF f9 tl a_2) (b := 1) (by omega) (by omega) c_130
      refine lv_iconst (v := 1) hx hb dX6_advance_82 (by decide) ?_
      refine lv_goto (tgt := 87) hx hb dX6_advance_83 (by decide) ?_
      refine lv_istore_n (lv' := [(2, .int 1), (1, .int (nI a_2)), (0, .ref tp)]) hx hb dX6_advance_87 rfl hl (by decide) rfl (fun ls hl => ?_)
      refine lp_V (nL := 3) (σ := Nat) (lv := fun x9 => [(2, .int 1), (0, .ref tp)]) (μ := fun x9 => tl - x9) (J := fun x9 ws9 => sm ρ [6] ws_126 ws9 ∧ (ws9[ktp]? = some (tp, .inr (6, [.int (nI tl), .int (nI (kdF f9 tl a_2)), .int (nI a_2), .int (nI x9), .ref bb]))) ∧ (a_2 ≤ x9 ∧ x9 ≤ tl) ∧ (∀ i : Nat, a_2 ≤ i → i < x9 → kq (f9 i) = kdF f9 tl a_2)) (fun x9 ws_136 H locs ls hj hP hD hS hl ih_132 => ?_) a_2 ws_126 _ _ ls ⟨sm.rf _, e_128, (show a_2 ≤ a_2 ∧ a_2 ≤ tl from by omega), (show ∀ i : Nat, a_2 ≤ i → i < a_2 → kq (f9 i) = kdF f9 tl a_2 from fun i h1 h2 => absurd h2 (by omega))⟩ hP hD hS (lv_sub hl [0, 2] rfl)
      obtain ⟨e9_133, hx9⟩ : ∃ y9, y9 = x9 := ⟨_, rfl⟩
      subst hx9
      replace hj : sm ρ [6] ws_126 ws_136 ∧ (ws_136[ktp]? = some (tp, .inr (6, [.int (nI tl), .int (nI (kdF f9 tl a_2)), .int (nI a_2), .int (nI e9_133), .ref bb]))) ∧ (a_2 ≤ e9_133 ∧ e9_133 ≤ tl) ∧ (∀ i : Nat, a_2 ≤ i → i < e9_133 → kq (f9 i) = kdF f9 tl a_2) := hj
      obtain ⟨hm_137, e_139, he_134, hr9_135⟩ := hj
      obtain ⟨g_141, e_140, h_142⟩ := hm_137.obj e_128
      obtain ⟨z_143, z_144, z_145, z_146, rfl⟩ := smX6 h_142
      have e_147 := hm_137.keep hkb e_129
      have hsm := hsm.tr (hm_137.mono (by decide))
      have hlp_7 := hlp_7.tr (hm_137.mono (by decide))
      have hlp_138 := hm_137
      have hl : lv_has ls 3 [(2, .int 1), (0, .ref tp)] := hl
      refine lv_iload_n hx hb dX6_advance_88 rfl (lv_at hl 0 rfl) ?_
      refine lv_if_eq (tgt := 134) hx hb dX6_advance_89 (by decide) (fun c_148 => absurd c_148 (by decide)) (fun c_148 => ?_)
      refine lv_aload_n hx hb dX6_advance_92 rfl (lv_at hl 1 rfl) ?_
      refine va_get (D := D) (ci := 6) (v := .int (nI e9_133)) (C := RX6) (T := TX6) (N := 5) hx hb hts hin6 hown hK hP ktp e_139 rfl 3 (by decide) (hts (.fieldLink RX6 19 "HoneyHouse$Tape" "end" "I") (List.mem_of_getElem? (i := 1) rfl)) (fun _ h9 => h9) rfl dX6_advance_93 ?_
      refine lv_aload_n hx hb dX6_advance_96 rfl (lv_at hl 1 rfl) ?_
      refine va_get (D := D) (ci := 6) (v := .int (nI tl)) (C := RX6) (T := TX6) (N := 5) hx hb hts hin6 hown hK hP ktp e_139 rfl 0 (by decide) (hts (.fieldLink RX6 15 "HoneyHouse$Tape" "length" "I") (List.mem_of_getElem? (i := 2) rfl)) (fun _ h9 => h9) rfl dX6_advance_97 ?_
      refine lv_icmp_ge (tgt := 134) hx hb dX6_advance_100 (by decide) (fun c_149 => ?_) (fun c_149 => ?_)
      · have d_150 := n_le (a := tl) (b := e9_133) (by omega) (by omega) c_149
        exact W.vret hx hb hr (fun t ht hW => ⟨⟨(), rfl, trivial, ws_136, tys, hsm, htx, by rw [ht]; exact hP, va_K.moved hW.alike hK, hD, (by rw [hsk, show teF f9 tl a_2 = e9_133 from te_kq (by omega) (by omega) (by omega) hr9_135 (Or.inl (by omega)) hng]; exact e_139)⟩, hS.F ht⟩) hS.2.2 dX6_advance_134
      have d_151 := n_nle (a := tl) (b := e9_133) (by omega) (by omega) c_149
      refine lv_aload_n hx hb dX6_advance_103 rfl (lv_at hl 1 rfl) ?_
      refine lv_aload_n hx hb dX6_advance_104 rfl (lv_at hl 1 rfl) ?_
      refine va_get (D := D) (ci := 6) (v := .int (nI e9_133)) (C := RX6) (T := TX6) (N := 5) hx hb hts hin6 hown hK hP ktp e_139 rfl 3 (by decide) (hts (.fieldLink RX6 19 "HoneyHouse$Tape" "end" "I") (List.mem_of_getElem? (i := 1) rfl)) (fun _ h9 => h9) rfl dX6_advance_105 ?_
      refine vp_callSi (W.runV (As := [.int (nI e9_133)]) (rest := []) ⟨hx, hb, hml, hown, hts⟩ (s_byteAt l D ws_136 tys tp ktp tl (nI (kdF f9 tl a_2)) (nI a_2) (nI e9_133) bb kbb cbb tbb fbb (nI e9_133) e_139 e_147 ubb) (cwV 1 hts gX6_advance_X6_byteAt rfl rfl rfl (by decide +kernel) ⟨Nat.le_of_ble_eq_true rfl, Nat.le_of_ble_eq_true rfl⟩) ⟨fun a U g mk q => ⟨q.1, q.2.1, va_K.moved (u := U) (U := U.calling g mk a) (Vm.Alike.refl U.vm) q.2.2⟩, va_recv hK hP (ci := 6) (q0 := ktp) rfl e_139, fun U hU hW => ⟨rfl, by rw [hU]; exact hP, va_K.moved hW.alike hK⟩⟩ rfl rfl hl.1 rfl (lv_room (Nat.le_of_ble_eq_true rfl)) dX6_advance_108 ⟨Nat.le_of_ble_eq_true rfl, Nat.le_of_ble_eq_true rfl⟩) (fun r_152 k_153 => ?_)
      obtain rfl : r_152 = btF f9 tl e9_133 := ba_nat k_153 htl (by omega) hbf
      refine vp_callSi (W.runS (As := [.int (btF f9 tl e9_133)]) (rest := []) ⟨hx, hb, hml, hown, hts⟩ (s_kindOf l (btF f9 tl e9_133)) (va_cwS 1 hts gX6_advance_X6_kindOf rfl rfl rfl (by decide +kernel) ⟨Nat.le_of_ble_eq_true rfl, Nat.le_of_ble_eq_true rfl⟩) ⟨fun a U g mk q => q, fun U hU hW => ⟨rfl, trivial⟩⟩ rfl rfl hl.1 rfl (lv_room (Nat.le_of_ble_eq_true rfl)) dX6_advance_111 ⟨Nat.le_of_ble_eq_true rfl, Nat.le_of_ble_eq_true rfl⟩) (fun r_154 k_155 => ?_)
      subst k_155; have hk_156 := kq_le (c := btF f9 tl e9_133)
      refine lv_aload_n hx hb dX6_advance_114 rfl (lv_at hl 1 rfl) ?_
      refine va_get (D := D) (ci := 6) (v := .int (nI (kdF f9 tl a_2))) (C := RX6) (T := TX6) (N := 5) hx hb hts hin6 hown hK hP ktp e_139 rfl 1 (by decide) (hts (.fieldLink RX6 35 "HoneyHouse$Tape" "kind" "I") (List.mem_of_getElem? (i := 4) rfl)) (fun _ h9 => h9) rfl dX6_advance_115 ?_
      refine lv_icmp_ne (tgt := 134) hx hb dX6_advance_118 (by decide) (fun c_157 => ?_) (fun c_157 => ?_)
      · have d_158 := n_ne (a := kq (btF f9 tl e9_133)) (b := kdF f9 tl a_2) (by omega) (by omega) c_157
        exact W.vret hx hb hr (fun t ht hW => ⟨⟨(), rfl, trivial, ws_136, tys, hsm, htx, by rw [ht]; exact hP, va_K.moved hW.alike hK, hD, (by rw [hsk, show teF f9 tl a_2 = e9_133 from te_kq (by omega) (by omega) (by omega) hr9_135 (Or.inr (fun q9 => d_158 (by rw [btF_t (by omega)]; exact q9))) hng]; exact e_139)⟩, hS.F ht⟩) hS.2.2 dX6_advance_134
      have d_159 := n_eq (a := kq (btF f9 tl e9_133)) (b := kdF f9 tl a_2) (by omega) (by omega) c_157
      refine lv_aload_n hx hb dX6_advance_121 rfl (lv_at hl 1 rfl) ?_
      refine lv_dup hx hb dX6_advance_122 rfl ?_
      refine va_get (D := D) (ci := 6) (v := .int (nI e9_133)) (C := RX6) (T := TX6) (N := 5) hx hb hts hin6 hown hK hP ktp e_139 rfl 3 (by decide) (hts (.fieldLink RX6 19 "HoneyHouse$Tape" "end" "I") (List.mem_of_getElem? (i := 1) rfl)) (fun _ h9 => h9) rfl dX6_advance_123 ?_
      refine lv_iconst (v := 1) hx hb dX6_advance_126 (by decide) ?_
      refine lv_iadd hx hb dX6_advance_127 ?_
      refine tp_i (y := nI (e9_133 + 1)) (nI_add e9_133 1) ?_
      refine va_put (D := D) (ci := 6) (v := .int (nI (e9_133 + 1))) (ty := .int) (C := RX6) (T := TX6) (N := 5) hx hb hts hin6 tyX6 tyX6_ok nmX6 hown hK hP hD hS ktp e_139 rfl 3 (by decide) (hts (.fieldLink RX6 19 "HoneyHouse$Tape" "end" "I") (List.mem_of_getElem? (i := 1) rfl)) (fun _ h9 => h9) rfl (tyX6_ok 3 (by decide)) rfl rfl (Nat.le_of_ble_eq_true rfl) dX6_advance_128 (fun H locs hP hD hS => ?_)
      have hP : va_P D vwCl (ws_136.set ktp (tp, .inr (6, [.int (nI tl), .int (nI (kdF f9 tl a_2)), .int (nI a_2), .int (nI (e9_133 + 1)), .ref bb]))) H := hP
      have hD : va_D A (ws_136.set ktp (tp, .inr (6, [.int (nI tl), .int (nI (kdF f9 tl a_2)), .int (nI a_2), .int (nI (e9_133 + 1)), .ref bb]))) := hD
      have hm_161 : sm ρ [6] ws_136 (ws_136.set ktp (tp, .inr (6, [.int (nI tl), .int (nI (kdF f9 tl a_2)), .int (nI a_2), .int (nI (e9_133 + 1)), .ref bb]))) := sm.flds e_139 (smF.c (smV.rf _) (smF.c (smV.rf _) (smF.c (smV.rf _) (smF.c (smV.i _ _) (smF.c (smV.rf _) (rfl)))))) (List.mem_singleton.mpr rfl) w_ktp
      have e_162 : (ws_136.set ktp (tp, .inr (6, [.int (nI tl), .int (nI (kdF f9 tl a_2)), .int (nI a_2), .int (nI (e9_133 + 1)), .ref bb])))[ktp]? = some (tp, .inr (6, [.int (nI tl), .int (nI (kdF f9 tl a_2)), .int (nI a_2), .int (nI (e9_133 + 1)), .ref bb])) := wset_self e_139
      generalize ws_136.set ktp (tp, .inr (6, [.int (nI tl), .int (nI (kdF f9 tl a_2)), .int (nI a_2), .int (nI (e9_133 + 1)), .ref bb])) = ws_160 at hP hD hm_161 e_162
      have e_163 := hm_161.keep hkb e_147
      have hsm := hsm.tr (hm_161.mono (by decide))
      have hlp_7 := hlp_7.tr (hm_161.mono (by decide))
      have hlp_138 := hlp_138.tr (hm_161.mono (by decide))
      refine lv_goto (tgt := 88) hx hb dX6_advance_131 (by decide) ?_
      exact ih_132 (e9_133 + 1) ws_160 _ _ ls (by show tl - (e9_133 + 1) < tl - e9_133; omega) ⟨hlp_138, e_162, (show a_2 ≤ (e9_133 + 1) ∧ (e9_133 + 1) ≤ tl from by omega), (show ∀ i : Nat, a_2 ≤ i → i < (e9_133 + 1) → kq (f9 i) = kdF f9 tl a_2 from fun i h1 h2 => (Nat.lt_or_ge i e9_133).elim (fun q9 => hr9_135 i h1 q9) (fun q9 => by rw [show i = e9_133 by omega, ← btF_t (f := f9) (n := tl) (b := e9_133) (by omega)]; exact d_159))⟩ hP hD hS (lv_sub hl [0, 1] rfl)
    have d_164 := n_ne (a := kdF f9 tl a_2) (b := 1) (by omega) (by omega) c_130
    refine lv_aload_n hx hb dX6_advance_74 rfl (lv_at hl 1 rfl) ?_
    refine va_get (D := D) (ci := 6) (v := .int (nI (kdF f9 tl a_2))) (C := RX6) (T := TX6) (N := 5) hx hb hts hin6 hown hK hP ktp e_128 rfl 1 (by decide) (hts (.fieldLink RX6 35 "HoneyHouse$Tape" "kind" "I") (List.mem_of_getElem? (i := 4) rfl)) (fun _ h9 => h9) rfl dX6_advance_75 ?_
    refine lv_iconst (v := 2) hx hb dX6_advance_78 (by decide) ?_
    refine lv_icmp_ne (tgt := 86) hx hb dX6_advance_79 (by decide) (fun c_165 => ?_) (fun c_165 => ?_)
    · have d_166 := n_ne (a := kdF f9 tl a_2) (b := 2) (by omega) (by omega) c_165
      refine lv_iconst (v := 0) hx hb dX6_advance_86 (by decide) ?_
      refine lv_istore_n (lv' := [(2, .int 0), (1, .int (nI a_2)), (0, .ref tp)]) hx hb dX6_advance_87 rfl hl (by decide) rfl (fun ls hl => ?_)
      refine lp_V (nL := 3) (σ := Nat) (lv := fun x9 => [(2, .int 0), (0, .ref tp)]) (μ := fun x9 => tl - x9) (J := fun x9 ws9 => sm ρ [6] ws_126 ws9 ∧ (ws9[ktp]? = some (tp, .inr (6, [.int (nI tl), .int (nI (kdF f9 tl a_2)), .int (nI a_2), .int (nI x9), .ref bb]))) ∧ (a_2 ≤ x9 ∧ x9 ≤ tl) ∧ (∀ i : Nat, a_2 ≤ i → i < x9 → kq (f9 i) = kdF f9 tl a_2) ∧ (x9 = a_2)) (fun x9 ws_172 H locs ls hj hP hD hS hl ih_167 => ?_) a_2 ws_126 _ _ ls ⟨sm.rf _, e_128, (show a_2 ≤ a_2 ∧ a_2 ≤ tl from by omega), (show ∀ i : Nat, a_2 ≤ i → i < a_2 → kq (f9 i) = kdF f9 tl a_2 from fun i h1 h2 => absurd h2 (by omega)), (show a_2 = a_2 from rfl)⟩ hP hD hS (lv_sub hl [0, 2] rfl)
      obtain ⟨e9_168, hx9⟩ : ∃ y9, y9 = x9 := ⟨_, rfl⟩
      subst hx9
      replace hj : sm ρ [6] ws_126 ws_172 ∧ (ws_172[ktp]? = some (tp, .inr (6, [.int (nI tl), .int (nI (kdF f9 tl a_2)), .int (nI a_2), .int (nI e9_168), .ref bb]))) ∧ (a_2 ≤ e9_168 ∧ e9_168 ≤ tl) ∧ (∀ i : Nat, a_2 ≤ i → i < e9_168 → kq (f9 i) = kdF f9 tl a_2) ∧ (e9_168 = a_2) := hj
      obtain ⟨hm_173, e_175, he_169, hr9_170, hnr_171⟩ := hj
      obtain ⟨g_177, e_176, h_178⟩ := hm_173.obj e_128
      obtain ⟨z_179, z_180, z_181, z_182, rfl⟩ := smX6 h_178
      have e_183 := hm_173.keep hkb e_129
      have hsm := hsm.tr (hm_173.mono (by decide))
      have hlp_7 := hlp_7.tr (hm_173.mono (by decide))
      have hlp_174 := hm_173
      have hl : lv_has ls 3 [(2, .int 0), (0, .ref tp)] := hl
      refine lv_iload_n hx hb dX6_advance_88 rfl (lv_at hl 0 rfl) ?_
      refine lv_if_eq (tgt := 134) hx hb dX6_advance_89 (by decide) (fun c_184 => ?_) (fun c_184 => absurd (by decide) c_184)
      exact W.vret hx hb hr (fun t ht hW => ⟨⟨(), rfl, trivial, ws_172, tys, hsm, htx, by rw [ht]; exact hP, va_K.moved hW.alike hK, hD, (by rw [hsk, show teF f9 tl a_2 = e9_168 from (teF_0 (by omega)).trans (show a_2 = e9_168 by omega)]; exact e_175)⟩, hS.F ht⟩) hS.2.2 dX6_advance_134
    have d_185 := n_eq (a := kdF f9 tl a_2) (b := 2) (by omega) (by omega) c_165
    refine lv_iconst (v := 1) hx hb dX6_advance_82 (by decide) ?_
    refine lv_goto (tgt := 87) hx hb dX6_advance_83 (by decide) ?_
    refine lv_istore_n (lv' := [(2, .int 1), (1, .int (nI a_2)), (0, .ref tp)]) hx hb dX6_advance_87 rfl hl (by decide) rfl (fun ls hl => ?_)
    refine lp_V (nL := 3) (σ := Nat) (lv := fun x9 => [(2, .int 1), (0, .ref tp)]) (μ := fun x9 => tl - x9) (J := fun x9 ws9 => sm ρ [6] ws_126 ws9 ∧ (ws9[ktp]? = some (tp, .inr (6, [.int (nI tl), .int (nI (kdF f9 tl a_2)), .int (nI a_2), .int (nI x9), .ref bb]))) ∧ (a_2 ≤ x9 ∧ x9 ≤ tl) ∧ (∀ i : Nat, a_2 ≤ i → i < x9 → kq (f9 i) = kdF f9 tl a_2)) (fun x9 ws_190 H locs ls hj hP hD hS hl ih_186 => ?_) a_2 ws_126 _ _ ls ⟨sm.rf _, e_128, (show a_2 ≤ a_2 ∧ a_2 ≤ tl from by omega), (show ∀ i : Nat, a_2 ≤ i → i < a_2 → kq (f9 i) = kdF f9 tl a_2 from fun i h1 h2 => absurd h2 (by omega))⟩ hP hD hS (lv_sub hl [0, 2] rfl)
    obtain ⟨e9_187, hx9⟩ : ∃ y9, y9 = x9 := ⟨_, rfl⟩
    subst hx9
    replace hj : sm ρ [6] ws_126 ws_190 ∧ (ws_190[ktp]? = some (tp, .inr (6, [.int (nI tl), .int (nI (kdF f9 tl a_2)), .int (nI a_2), .int (nI e9_187), .ref bb]))) ∧ (a_2 ≤ e9_187 ∧ e9_187 ≤ tl) ∧ (∀ i : Nat, a_2 ≤ i → i < e9_187 → kq (f9 i) = kdF f9 tl a_2) := hj
    obtain ⟨hm_191, e_193, he_188, hr9_189⟩ := hj
    obtain ⟨g_195, e_194, h_196⟩ := hm_191.obj e_128
    obtain ⟨z_197, z_198, z_199, z_200, rfl⟩ := smX6 h_196
    have e_201 := hm_191.keep hkb e_129
    have hsm := hsm.tr (hm_191.mono (by decide))
    have hlp_7 := hlp_7.tr (hm_191.mono (by decide))
    have hlp_192 := hm_191
    have hl : lv_has ls 3 [(2, .int 1), (0, .ref tp)] := hl
    refine lv_iload_n hx hb dX6_advance_88 rfl (lv_at hl 0 rfl) ?_
    refine lv_if_eq (tgt := 134) hx hb dX6_advance_89 (by decide) (fun c_202 => absurd c_202 (by decide)) (fun c_202 => ?_)
    refine lv_aload_n hx hb dX6_advance_92 rfl (lv_at hl 1 rfl) ?_
    refine va_get (D := D) (ci := 6) (v := .int (nI e9_187)) (C := RX6) (T := TX6) (N := 5) hx hb hts hin6 hown hK hP ktp e_193 rfl 3 (by decide) (hts (.fieldLink RX6 19 "HoneyHouse$Tape" "end" "I") (List.mem_of_getElem? (i := 1) rfl)) (fun _ h9 => h9) rfl dX6_advance_93 ?_
    refine lv_aload_n hx hb dX6_advance_96 rfl (lv_at hl 1 rfl) ?_
    refine va_get (D := D) (ci := 6) (v := .int (nI tl)) (C := RX6) (T := TX6) (N := 5) hx hb hts hin6 hown hK hP ktp e_193 rfl 0 (by decide) (hts (.fieldLink RX6 15 "HoneyHouse$Tape" "length" "I") (List.mem_of_getElem? (i := 2) rfl)) (fun _ h9 => h9) rfl dX6_advance_97 ?_
    refine lv_icmp_ge (tgt := 134) hx hb dX6_advance_100 (by decide) (fun c_203 => ?_) (fun c_203 => ?_)
    · have d_204 := n_le (a := tl) (b := e9_187) (by omega) (by omega) c_203
      exact W.vret hx hb hr (fun t ht hW => ⟨⟨(), rfl, trivial, ws_190, tys, hsm, htx, by rw [ht]; exact hP, va_K.moved hW.alike hK, hD, (by rw [hsk, show teF f9 tl a_2 = e9_187 from te_kq (by omega) (by omega) (by omega) hr9_189 (Or.inl (by omega)) hng]; exact e_193)⟩, hS.F ht⟩) hS.2.2 dX6_advance_134
    have d_205 := n_nle (a := tl) (b := e9_187) (by omega) (by omega) c_203
    refine lv_aload_n hx hb dX6_advance_103 rfl (lv_at hl 1 rfl) ?_
    refine lv_aload_n hx hb dX6_advance_104 rfl (lv_at hl 1 rfl) ?_
    refine va_get (D := D) (ci := 6) (v := .int (nI e9_187)) (C := RX6) (T := TX6) (N := 5) hx hb hts hin6 hown hK hP ktp e_193 rfl 3 (by decide) (hts (.fieldLink RX6 19 "HoneyHouse$Tape" "end" "I") (List.mem_of_getElem? (i := 1) rfl)) (fun _ h9 => h9) rfl dX6_advance_105 ?_
    refine vp_callSi (W.runV (As := [.int (nI e9_187)]) (rest := []) ⟨hx, hb, hml, hown, hts⟩ (s_byteAt l D ws_190 tys tp ktp tl (nI (kdF f9 tl a_2)) (nI a_2) (nI e9_187) bb kbb cbb tbb fbb (nI e9_187) e_193 e_201 ubb) (cwV 1 hts gX6_advance_X6_byteAt rfl rfl rfl (by decide +kernel) ⟨Nat.le_of_ble_eq_true rfl, Nat.le_of_ble_eq_true rfl⟩) ⟨fun a U g mk q => ⟨q.1, q.2.1, va_K.moved (u := U) (U := U.calling g mk a) (Vm.Alike.refl U.vm) q.2.2⟩, va_recv hK hP (ci := 6) (q0 := ktp) rfl e_193, fun U hU hW => ⟨rfl, by rw [hU]; exact hP, va_K.moved hW.alike hK⟩⟩ rfl rfl hl.1 rfl (lv_room (Nat.le_of_ble_eq_true rfl)) dX6_advance_108 ⟨Nat.le_of_ble_eq_true rfl, Nat.le_of_ble_eq_true rfl⟩) (fun r_206 k_207 => ?_)
    obtain rfl : r_206 = btF f9 tl e9_187 := ba_nat k_207 htl (by omega) hbf
    refine vp_callSi (W.runS (As := [.int (btF f9 tl e9_187)]) (rest := []) ⟨hx, hb, hml, hown, hts⟩ (s_kindOf l (btF f9 tl e9_187)) (va_cwS 1 hts gX6_advance_X6_kindOf rfl rfl rfl (by decide +kernel) ⟨Nat.le_of_ble_eq_true rfl, Nat.le_of_ble_eq_true rfl⟩) ⟨fun a U g mk q => q, fun U hU hW => ⟨rfl, trivial⟩⟩ rfl rfl hl.1 rfl (lv_room (Nat.le_of_ble_eq_true rfl)) dX6_advance_111 ⟨Nat.le_of_ble_eq_true rfl, Nat.le_of_ble_eq_true rfl⟩) (fun r_208 k_209 => ?_)
    subst k_209; have hk_210 := kq_le (c := btF f9 tl e9_187)
    refine lv_aload_n hx hb dX6_advance_114 rfl (lv_at hl 1 rfl) ?_
    refine va_get (D := D) (ci := 6) (v := .int (nI (kdF f9 tl a_2))) (C := RX6) (T := TX6) (N := 5) hx hb hts hin6 hown hK hP ktp e_193 rfl 1 (by decide) (hts (.fieldLink RX6 35 "HoneyHouse$Tape" "kind" "I") (List.mem_of_getElem? (i := 4) rfl)) (fun _ h9 => h9) rfl dX6_advance_115 ?_
    refine lv_icmp_ne (tgt := 134) hx hb dX6_advance_118 (by decide) (fun c_211 => ?_) (fun c_211 => ?_)
    · have d_212 := n_ne (a := kq (btF f9 tl e9_187)) (b := kdF f9 tl a_2) (by omega) (by omega) c_211
      exact W.vret hx hb hr (fun t ht hW => ⟨⟨(), rfl, trivial, ws_190, tys, hsm, htx, by rw [ht]; exact hP, va_K.moved hW.alike hK, hD, (by rw [hsk, show teF f9 tl a_2 = e9_187 from te_kq (by omega) (by omega) (by omega) hr9_189 (Or.inr (fun q9 => d_212 (by rw [btF_t (by omega)]; exact q9))) hng]; exact e_193)⟩, hS.F ht⟩) hS.2.2 dX6_advance_134
    have d_213 := n_eq (a := kq (btF f9 tl e9_187)) (b := kdF f9 tl a_2) (by omega) (by omega) c_211
    refine lv_aload_n hx hb dX6_advance_121 rfl (lv_at hl 1 rfl) ?_
    refine lv_dup hx hb dX6_advance_122 rfl ?_
    refine va_get (D := D) (ci := 6) (v := .int (nI e9_187)) (C := RX6) (T := TX6) (N := 5) hx hb hts hin6 hown hK hP ktp e_193 rfl 3 (by decide) (hts (.fieldLink RX6 19 "HoneyHouse$Tape" "end" "I") (List.mem_of_getElem? (i := 1) rfl)) (fun _ h9 => h9) rfl dX6_advance_123 ?_
    refine lv_iconst (v := 1) hx hb dX6_advance_126 (by decide) ?_
    refine lv_iadd hx hb dX6_advance_127 ?_
    refine tp_i (y := nI (e9_187 + 1)) (nI_add e9_187 1) ?_
    refine va_put (D := D) (ci := 6) (v := .int (nI (e9_187 + 1))) (ty := .int) (C := RX6) (T := TX6) (N := 5) hx hb hts hin6 tyX6 tyX6_ok nmX6 hown hK hP hD hS ktp e_193 rfl 3 (by decide) (hts (.fieldLink RX6 19 "HoneyHouse$Tape" "end" "I") (List.mem_of_getElem? (i := 1) rfl)) (fun _ h9 => h9) rfl (tyX6_ok 3 (by decide)) rfl rfl (Nat.le_of_ble_eq_true rfl) dX6_advance_128 (fun H locs hP hD hS => ?_)
    have hP : va_P D vwCl (ws_190.set ktp (tp, .inr (6, [.int (nI tl), .int (nI (kdF f9 tl a_2)), .int (nI a_2), .int (nI (e9_187 + 1)), .ref bb]))) H := hP
    have hD : va_D A (ws_190.set ktp (tp, .inr (6, [.int (nI tl), .int (nI (kdF f9 tl a_2)), .int (nI a_2), .int (nI (e9_187 + 1)), .ref bb]))) := hD
    have hm_215 : sm ρ [6] ws_190 (ws_190.set ktp (tp, .inr (6, [.int (nI tl), .int (nI (kdF f9 tl a_2)), .int (nI a_2), .int (nI (e9_187 + 1)), .ref bb]))) := sm.flds e_193 (smF.c (smV.rf _) (smF.c (smV.rf _) (smF.c (smV.rf _) (smF.c (smV.i _ _) (smF.c (smV.rf _) (rfl)))))) (List.mem_singleton.mpr rfl) w_ktp
    have e_216 : (ws_190.set ktp (tp, .inr (6, [.int (nI tl), .int (nI (kdF f9 tl a_2)), .int (nI a_2), .int (nI (e9_187 + 1)), .ref bb])))[ktp]? = some (tp, .inr (6, [.int (nI tl), .int (nI (kdF f9 tl a_2)), .int (nI a_2), .int (nI (e9_187 + 1)), .ref bb])) := wset_self e_193
    generalize ws_190.set ktp (tp, .inr (6, [.int (nI tl), .int (nI (kdF f9 tl a_2)), .int (nI a_2), .int (nI (e9_187 + 1)), .ref bb])) = ws_214 at hP hD hm_215 e_216
    have e_217 := hm_215.keep hkb e_201
    have hsm := hsm.tr (hm_215.mono (by decide))
    have hlp_7 := hlp_7.tr (hm_215.mono (by decide))
    have hlp_192 := hlp_192.tr (hm_215.mono (by decide))
    refine lv_goto (tgt := 88) hx hb dX6_advance_131 (by decide) ?_
    exact ih_186 (e9_187 + 1) ws_214 _ _ ls (by show tl - (e9_187 + 1) < tl - e9_187; omega) ⟨hlp_192, e_216, (show a_2 ≤ (e9_187 + 1) ∧ (e9_187 + 1) ≤ tl from by omega), (show ∀ i : Nat, a_2 ≤ i → i < (e9_187 + 1) → kq (f9 i) = kdF f9 tl a_2 from fun i h1 h2 => (Nat.lt_or_ge i e9_187).elim (fun q9 => hr9_189 i h1 q9) (fun q9 => by rw [show i = e9_187 by omega, ← btF_t (f := f9) (n := tl) (b := e9_187) (by omega)]; exact d_213))⟩ hP hD hS (lv_sub hl [0, 1] rfl)
  have d_218 := n_nle (a := tl) (b := a_2) (by omega) (by omega) c_17
  refine lv_aload_n hx hb dX6_advance_13 rfl (lv_at hl 1 rfl) ?_
  refine lv_iload_n hx hb dX6_advance_14 rfl (lv_at hl 0 rfl) ?_
  refine vp_callSi (W.runV (As := [.int (nI a_2)]) (rest := []) ⟨hx, hb, hml, hown, hts⟩ (s_byteAt l D ws_5 tys tp ktp tl x1 x2 (nI te) bb kbb cbb tbb fbb (nI a_2) e_8 e_16 ubb) (cwV 1 hts gX6_advance_X6_byteAt rfl rfl rfl (by decide +kernel) ⟨Nat.le_of_ble_eq_true rfl, Nat.le_of_ble_eq_true rfl⟩) ⟨fun a U g mk q => ⟨q.1, q.2.1, va_K.moved (u := U) (U := U.calling g mk a) (Vm.Alike.refl U.vm) q.2.2⟩, va_recv hK hP (ci := 6) (q0 := ktp) rfl e_8, fun U hU hW => ⟨rfl, by rw [hU]; exact hP, va_K.moved hW.alike hK⟩⟩ rfl rfl hl.1 rfl (lv_room (Nat.le_of_ble_eq_true rfl)) dX6_advance_15 ⟨Nat.le_of_ble_eq_true rfl, Nat.le_of_ble_eq_true rfl⟩) (fun r_219 k_220 => ?_)
  obtain rfl : r_219 = btF f9 tl a_2 := ba_nat k_220 htl (by omega) hbf
  refine vp_callSi (W.runS (As := [.int (btF f9 tl a_2)]) (rest := []) ⟨hx, hb, hml, hown, hts⟩ (s_kindOf l (btF f9 tl a_2)) (va_cwS 1 hts gX6_advance_X6_kindOf rfl rfl rfl (by decide +kernel) ⟨Nat.le_of_ble_eq_true rfl, Nat.le_of_ble_eq_true rfl⟩) ⟨fun a U g mk q => q, fun U hU hW => ⟨rfl, trivial⟩⟩ rfl rfl hl.1 rfl (lv_room (Nat.le_of_ble_eq_true rfl)) dX6_advance_18 ⟨Nat.le_of_ble_eq_true rfl, Nat.le_of_ble_eq_true rfl⟩) (fun r_221 k_222 => ?_)
  subst k_222; have hk_223 := kq_le (c := btF f9 tl a_2)
  refine lv_iconst (v := 3) hx hb dX6_advance_21 (by decide) ?_
  refine lv_icmp_ne (tgt := 31) hx hb dX6_advance_22 (by decide) (fun c_224 => ?_) (fun c_224 => ?_)
  · have d_225 := n_ne (a := kq (btF f9 tl a_2)) (b := 3) (by omega) (by omega) c_224
    have hnb : a_2 = tl ∨ ¬ blk (f9 a_2) := Or.inr (fun q9 => d_225 (by rw [btF_t (by omega)]; exact kq_blk q9))
    have hsk : skB f9 tl te = a_2 := isRn.eq ⟨by omega, by omega, hb9_4, hnb⟩
    have hkl := kdF_le (f := f9) (n := tl) (b := a_2)
    refine lv_aload_n hx hb dX6_advance_31 rfl (lv_at hl 1 rfl) ?_
    refine lv_iload_n hx hb dX6_advance_32 rfl (lv_at hl 0 rfl) ?_
    refine va_put (D := D) (ci := 6) (v := .int (nI a_2)) (ty := .int) (C := RX6) (T := TX6) (N := 5) hx hb hts hin6 tyX6 tyX6_ok nmX6 hown hK hP hD hS ktp e_8 rfl 2 (by decide) (hts (.fieldLink RX6 32 "HoneyHouse$Tape" "start" "I") (List.mem_of_getElem? (i := 3) rfl)) (fun _ h9 => h9) rfl (tyX6_ok 2 (by decide)) rfl rfl (Nat.le_of_ble_eq_true rfl) dX6_advance_33 (fun H locs hP hD hS => ?_)
    have hP : va_P D vwCl (ws_5.set ktp (tp, .inr (6, [.int (nI tl), .int x1, .int (nI a_2), .int (nI te), .ref bb]))) H := hP
    have hD : va_D A (ws_5.set ktp (tp, .inr (6, [.int (nI tl), .int x1, .int (nI a_2), .int (nI te), .ref bb]))) := hD
    have hm_227 : sm ρ [6] ws_5 (ws_5.set ktp (tp, .inr (6, [.int (nI tl), .int x1, .int (nI a_2), .int (nI te), .ref bb]))) := sm.flds e_8 (smF.c (smV.rf _) (smF.c (smV.rf _) (smF.c (smV.i _ _) (smF.c (smV.rf _) (smF.c (smV.rf _) (rfl)))))) (List.mem_singleton.mpr rfl) w_ktp
    have e_228 : (ws_5.set ktp (tp, .inr (6, [.int (nI tl), .int x1, .int (nI a_2), .int (nI te), .ref bb])))[ktp]? = some (tp, .inr (6, [.int (nI tl), .int x1, .int (nI a_2), .int (nI te), .ref bb])) := wset_self e_8
    generalize ws_5.set ktp (tp, .inr (6, [.int (nI tl), .int x1, .int (nI a_2), .int (nI te), .ref bb])) = ws_226 at hP hD hm_227 e_228
    have e_229 := hm_227.keep hkb e_16
    have hsm := hsm.tr (hm_227.mono (by decide))
    have hlp_7 := hlp_7.tr (hm_227.mono (by decide))
    refine lv_aload_n hx hb dX6_advance_36 rfl (lv_at hl 1 rfl) ?_
    refine lv_aload_n hx hb dX6_advance_37 rfl (lv_at hl 1 rfl) ?_
    refine lv_iload_n hx hb dX6_advance_38 rfl (lv_at hl 0 rfl) ?_
    refine vp_callSi (W.runV (As := [.int (nI a_2)]) (rest := [.ref tp]) ⟨hx, hb, hml, hown, hts⟩ (s_byteAt l D ws_226 tys tp ktp tl x1 (nI a_2) (nI te) bb kbb cbb tbb fbb (nI a_2) e_228 e_229 ubb) (cwV 1 hts gX6_advance_X6_byteAt rfl rfl rfl (by decide +kernel) ⟨Nat.le_of_ble_eq_true rfl, Nat.le_of_ble_eq_true rfl⟩) ⟨fun a U g mk q => ⟨q.1, q.2.1, va_K.moved (u := U) (U := U.calling g mk a) (Vm.Alike.refl U.vm) q.2.2⟩, va_recv hK hP (ci := 6) (q0 := ktp) rfl e_228, fun U hU hW => ⟨rfl, by rw [hU]; exact hP, va_K.moved hW.alike hK⟩⟩ rfl rfl hl.1 rfl (lv_room (Nat.le_of_ble_eq_true rfl)) dX6_advance_39 ⟨Nat.le_of_ble_eq_true rfl, Nat.le_of_ble_eq_true rfl⟩) (fun r_230 k_231 => ?_)
    obtain rfl : r_230 = btF f9 tl a_2 := ba_nat k_231 htl (by omega) hbf
    refine vp_callSi (W.runS (As := [.int (btF f9 tl a_2)]) (rest := [.ref tp]) ⟨hx, hb, hml, hown, hts⟩ (s_kindOf l (btF f9 tl a_2)) (va_cwS 1 hts gX6_advance_X6_kindOf rfl rfl rfl (by decide +kernel) ⟨Nat.le_of_ble_eq_true rfl, Nat.le_of_ble_eq_true rfl⟩) ⟨fun a U g mk q => q, fun U hU hW => ⟨rfl, trivial⟩⟩ rfl rfl hl.1 rfl (lv_room (Nat.le_of_ble_eq_true rfl)) dX6_advance_42 ⟨Nat.le_of_ble_eq_true rfl, Nat.le_of_ble_eq_true rfl⟩) (fun r_232 k_233 => ?_)
    obtain rfl : r_232 = nI (kdF f9 tl a_2) := k_233.trans (congrArg nI (kq_bt ⟨by omega, hnb⟩ hng))
    refine va_put (D := D) (ci := 6) (v := .int (nI (kdF f9 tl a_2))) (ty := .int) (C := RX6) (T := TX6) (N := 5) hx hb hts hin6 tyX6 tyX6_ok nmX6 hown hK hP hD hS ktp e_228 rfl 1 (by decide) (hts (.fieldLink RX6 35 "HoneyHouse$Tape" "kind" "I") (List.mem_of_getElem? (i := 4) rfl)) (fun _ h9 => h9) rfl (tyX6_ok 1 (by decide)) rfl rfl (Nat.le_of_ble_eq_true rfl) dX6_advance_45 (fun H locs hP hD hS => ?_)
    have hP : va_P D vwCl (ws_226.set ktp (tp, .inr (6, [.int (nI tl), .int (nI (kdF f9 tl a_2)), .int (nI a_2), .int (nI te), .ref bb]))) H := hP
    have hD : va_D A (ws_226.set ktp (tp, .inr (6, [.int (nI tl), .int (nI (kdF f9 tl a_2)), .int (nI a_2), .int (nI te), .ref bb]))) := hD
    have hm_235 : sm ρ [6] ws_226 (ws_226.set ktp (tp, .inr (6, [.int (nI tl), .int (nI (kdF f9 tl a_2)), .int (nI a_2), .int (nI te), .ref bb]))) := sm.flds e_228 (smF.c (smV.rf _) (smF.c (smV.i _ _) (smF.c (smV.rf _) (smF.c (smV.rf _) (smF.c (smV.rf _) (rfl)))))) (List.mem_singleton.mpr rfl) w_ktp
    have e_236 : (ws_226.set ktp (tp, .inr (6, [.int (nI tl), .int (nI (kdF f9 tl a_2)), .int (nI a_2), .int (nI te), .ref bb])))[ktp]? = some (tp, .inr (6, [.int (nI tl), .int (nI (kdF f9 tl a_2)), .int (nI a_2), .int (nI te), .ref bb])) := wset_self e_228
    generalize ws_226.set ktp (tp, .inr (6, [.int (nI tl), .int (nI (kdF f9 tl a_2)), .int (nI a_2), .int (nI te), .ref bb])) = ws_234 at hP hD hm_235 e_236
    have e_237 := hm_235.keep hkb e_229
    have hsm := hsm.tr (hm_235.mono (by decide))
    have hlp_7 := hlp_7.tr (hm_235.mono (by decide))
    refine lv_aload_n hx hb dX6_advance_48 rfl (lv_at hl 1 rfl) ?_
    refine lv_aload_n hx hb dX6_advance_49 rfl (lv_at hl 1 rfl) ?_
    refine va_get (D := D) (ci := 6) (v := .int (nI (kdF f9 tl a_2))) (C := RX6) (T := TX6) (N := 5) hx hb hts hin6 hown hK hP ktp e_236 rfl 1 (by decide) (hts (.fieldLink RX6 35 "HoneyHouse$Tape" "kind" "I") (List.mem_of_getElem? (i := 4) rfl)) (fun _ h9 => h9) rfl dX6_advance_50 ?_
    refine lv_if_ne (tgt := 60) hx hb dX6_advance_53 (by decide) (fun c_238 => ?_) (fun c_238 => ?_)
    · have d_239 := n_ne (a := kdF f9 tl a_2) (b := 0) (by omega) (by omega) c_238
      have hlt : a_2 < tl := kdF_lt (f := f9) d_239
      refine lv_iload_n hx hb dX6_advance_60 rfl (lv_at hl 0 rfl) ?_
      refine lv_iconst (v := 1) hx hb dX6_advance_61 (by decide) ?_
      refine lv_iadd hx hb dX6_advance_62 ?_
      refine tp_i (y := nI (a_2 + 1)) (nI_add a_2 1) ?_
      refine va_put (D := D) (ci := 6) (v := .int (nI (a_2 + 1))) (ty := .int) (C := RX6) (T := TX6) (N := 5) hx hb hts hin6 tyX6 tyX6_ok nmX6 hown hK hP hD hS ktp e_236 rfl 3 (by decide) (hts (.fieldLink RX6 19 "HoneyHouse$Tape" "end" "I") (List.mem_of_getElem? (i := 1) rfl)) (fun _ h9 => h9) rfl (tyX6_ok 3 (by decide)) rfl rfl (Nat.le_of_ble_eq_true rfl) dX6_advance_63 (fun H locs hP hD hS => ?_)
      have hP : va_P D vwCl (ws_234.set ktp (tp, .inr (6, [.int (nI tl), .int (nI (kdF f9 tl a_2)), .int (nI a_2), .int (nI (a_2 + 1)), .ref bb]))) H := hP
      have hD : va_D A (ws_234.set ktp (tp, .inr (6, [.int (nI tl), .int (nI (kdF f9 tl a_2)), .int (nI a_2), .int (nI (a_2 + 1)), .ref bb]))) := hD
      have hm_241 : sm ρ [6] ws_234 (ws_234.set ktp (tp, .inr (6, [.int (nI tl), .int (nI (kdF f9 tl a_2)), .int (nI a_2), .int (nI (a_2 + 1)), .ref bb]))) := sm.flds e_236 (smF.c (smV.rf _) (smF.c (smV.rf _) (smF.c (smV.rf _) (smF.c (smV.i _ _) (smF.c (smV.rf _) (rfl)))))) (List.mem_singleton.mpr rfl) w_ktp
      have e_242 : (ws_234.set ktp (tp, .inr (6, [.int (nI tl), .int (nI (kdF f9 tl a_2)), .int (nI a_2), .int (nI (a_2 + 1)), .ref bb])))[ktp]? = some (tp, .inr (6, [.int (nI tl), .int (nI (kdF f9 tl a_2)), .int (nI a_2), .int (nI (a_2 + 1)), .ref bb])) := wset_self e_236
      generalize ws_234.set ktp (tp, .inr (6, [.int (nI tl), .int (nI (kdF f9 tl a_2)), .int (nI a_2), .int (nI (a_2 + 1)), .ref bb])) = ws_240 at hP hD hm_241 e_242
      have e_243 := hm_241.keep hkb e_237
      have hsm := hsm.tr (hm_241.mono (by decide))
      have hlp_7 := hlp_7.tr (hm_241.mono (by decide))
      refine lv_aload_n hx hb dX6_advance_66 rfl (lv_at hl 1 rfl) ?_
      refine va_get (D := D) (ci := 6) (v := .int (nI (kdF f9 tl a_2))) (C := RX6) (T := TX6) (N := 5) hx hb hts hin6 hown hK hP ktp e_242 rfl 1 (by decide) (hts (.fieldLink RX6 35 "HoneyHouse$Tape" "kind" "I") (List.mem_of_getElem? (i := 4) rfl)) (fun _ h9 => h9) rfl dX6_advance_67 ?_
      refine lv_iconst (v := 1) hx hb dX6_advance_70 (by decide) ?_
      refine lv_icmp_eq (tgt := 82) hx hb dX6_advance_71 (by decide) (fun c_244 => ?_) (fun c_244 => ?_)
      · have d_245 := n_eq (a := kdF f9 tl a_2) (b := 1) (by omega) (by omega) c_244
        refine lv_iconst (v := 1) hx hb dX6_advance_82 (by decide) ?_
        refine lv_goto (tgt := 87) hx hb dX6_advance_83 (by decide) ?_
        refine lv_istore_n (lv' := [(2, .int 1), (1, .int (nI a_2)), (0, .ref tp)]) hx hb dX6_advance_87 rfl hl (by decide) rfl (fun ls hl => ?_)
        refine lp_V (nL := 3) (σ := Nat) (lv := fun x9 => [(2, .int 1), (0, .ref tp)]) (μ := fun x9 => tl - x9) (J := fun x9 ws9 => sm ρ [6] ws_240 ws9 ∧ (ws9[ktp]? = some (tp, .inr (6, [.int (nI tl), .int (nI (kdF f9 tl a_2)), .int (nI a_2), .int (nI x9), .ref bb]))) ∧ (a_2 ≤ x9 ∧ x9 ≤ tl) ∧ (∀ i : Nat, a_2 ≤ i → i < x9 → kq (f9 i) = kdF f9 tl a_2)) (fun x9 ws_250 H locs ls hj hP hD hS hl ih_246 => ?_) (a_2 + 1) ws_240 _ _ ls ⟨sm.rf _, e_242, (show a_2 ≤ (a_2 + 1) ∧ (a_2 + 1) ≤ tl from by omega), (show ∀ i : Nat, a_2 ≤ i → i < (a_2 + 1) → kq (f9 i) = kdF f9 tl a_2 from fun i h1 h2 => by rw [show i = a_2 by omega]; exact kq_kd hlt (hng _ hlt) (hnb.elim (fun q9 => by omega) id))⟩ hP hD hS (lv_sub hl [0, 2] rfl)
        obtain ⟨e9_247, hx9⟩ : ∃ y9, y9 = x9 := ⟨_, rfl⟩
        subst hx9
        replace hj : sm ρ [6] ws_240 ws_250 ∧ (ws_250[ktp]? = some (tp, .inr (6, [.int (nI tl), .int (nI (kdF f9 tl a_2)), .int (nI a_2), .int (nI e9_247), .ref bb]))) ∧ (a_2 ≤ e9_247 ∧ e9_247 ≤ tl) ∧ (∀ i : Nat, a_2 ≤ i → i < e9_247 → kq (f9 i) = kdF f9 tl a_2) := hj
        obtain ⟨hm_251, e_253, he_248, hr9_249⟩ := hj
        obtain ⟨g_255, e_254, h_256⟩ := hm_251.obj e_242
        obtain ⟨z_257, z_258, z_259, z_260, rfl⟩ := smX6 h_256
        have e_261 := hm_251.keep hkb e_243
        have hsm := hsm.tr (hm_251.mono (by decide))
        have hlp_7 := hlp_7.tr (hm_251.mono (by decide))
        have hlp_252 := hm_251
        have hl : lv_has ls 3 [(2, .int 1), (0, .ref tp)] := hl
        refine lv_iload_n hx hb dX6_advance_88 rfl (lv_at hl 0 rfl) ?_
        refine lv_if_eq (tgt := 134) hx hb dX6_advance_89 (by decide) (fun c_262 => absurd c_262 (by decide)) (fun c_262 => ?_)
        refine lv_aload_n hx hb dX6_advance_92 rfl (lv_at hl 1 rfl) ?_
        refine va_get (D := D) (ci := 6) (v := .int (nI e9_247)) (C := RX6) (T := TX6) (N := 5) hx hb hts hin6 hown hK hP ktp e_253 rfl 3 (by decide) (hts (.fieldLink RX6 19 "HoneyHouse$Tape" "end" "I") (List.mem_of_getElem? (i := 1) rfl)) (fun _ h9 => h9) rfl dX6_advance_93 ?_
        refine lv_aload_n hx hb dX6_advance_96 rfl (lv_at hl 1 rfl) ?_
        refine va_get (D := D) (ci := 6) (v := .int (nI tl)) (C := RX6) (T := TX6) (N := 5) hx hb hts hin6 hown hK hP ktp e_253 rfl 0 (by decide) (hts (.fieldLink RX6 15 "HoneyHouse$Tape" "length" "I") (List.mem_of_getElem? (i := 2) rfl)) (fun _ h9 => h9) rfl dX6_advance_97 ?_
        refine lv_icmp_ge (tgt := 134) hx hb dX6_advance_100 (by decide) (fun c_263 => ?_) (fun c_263 => ?_)
        · have d_264 := n_le (a := tl) (b := e9_247) (by omega) (by omega) c_263
          exact W.vret hx hb hr (fun t ht hW => ⟨⟨(), rfl, trivial, ws_250, tys, hsm, htx, by rw [ht]; exact hP, va_K.moved hW.alike hK, hD, (by rw [hsk, show teF f9 tl a_2 = e9_247 from te_kq (by omega) (by omega) (by omega) hr9_249 (Or.inl (by omega)) hng]; exact e_253)⟩, hS.F ht⟩) hS.2.2 dX6_advance_134
        have d_265 := n_nle (a := tl) (b := e9_247) (by omega) (by omega) c_263
        refine lv_aload_n hx hb dX6_advance_103 rfl (lv_at hl 1 rfl) ?_
        refine lv_aload_n hx hb dX6_advance_104 rfl (lv_at hl 1 rfl) ?_
        refine va_get (D := D) (ci := 6) (v := .int (nI e9_247)) (C := RX6) (T := TX6) (N := 5) hx hb hts hin6 hown hK hP ktp e_253 rfl 3 (by decide) (hts (.fieldLink RX6 19 "HoneyHouse$Tape" "end" "I") (List.mem_of_getElem? (i := 1) rfl)) (fun _ h9 => h9) rfl dX6_advance_105 ?_
        refine vp_callSi (W.runV (As := [.int (nI e9_247)]) (rest := []) ⟨hx, hb, hml, hown, hts⟩ (s_byteAt l D ws_250 tys tp ktp tl (nI (kdF f9 tl a_2)) (nI a_2) (nI e9_247) bb kbb cbb tbb fbb (nI e9_247) e_253 e_261 ubb) (cwV 1 hts gX6_advance_X6_byteAt rfl rfl rfl (by decide +kernel) ⟨Nat.le_of_ble_eq_true rfl, Nat.le_of_ble_eq_true rfl⟩) ⟨fun a U g mk q => ⟨q.1, q.2.1, va_K.moved (u := U) (U := U.calling g mk a) (Vm.Alike.refl U.vm) q.2.2⟩, va_recv hK hP (ci := 6) (q0 := ktp) rfl e_253, fun U hU hW => ⟨rfl, by rw [hU]; exact hP, va_K.moved hW.alike hK⟩⟩ rfl rfl hl.1 rfl (lv_room (Nat.le_of_ble_eq_true rfl)) dX6_advance_108 ⟨Nat.le_of_ble_eq_true rfl, Nat.le_of_ble_eq_true rfl⟩) (fun r_266 k_267 => ?_)
        obtain rfl : r_266 = btF f9 tl e9_247 := ba_nat k_267 htl (by omega) hbf
        refine vp_callSi (W.runS (As := [.int (btF f9 tl e9_247)]) (rest := []) ⟨hx, hb, hml, hown, hts⟩ (s_kindOf l (btF f9 tl e9_247)) (va_cwS 1 hts gX6_advance_X6_kindOf rfl rfl rfl (by decide +kernel) ⟨Nat.le_of_ble_eq_true rfl, Nat.le_of_ble_eq_true rfl⟩) ⟨fun a U g mk q => q, fun U hU hW => ⟨rfl, trivial⟩⟩ rfl rfl hl.1 rfl (lv_room (Nat.le_of_ble_eq_true rfl)) dX6_advance_111 ⟨Nat.le_of_ble_eq_true rfl, Nat.le_of_ble_eq_true rfl⟩) (fun r_268 k_269 => ?_)
        subst k_269; have hk_270 := kq_le (c := btF f9 tl e9_247)
        refine lv_aload_n hx hb dX6_advance_114 rfl (lv_at hl 1 rfl) ?_
        refine va_get (D := D) (ci := 6) (v := .int (nI (kdF f9 tl a_2))) (C := RX6) (T := TX6) (N := 5) hx hb hts hin6 hown hK hP ktp e_253 rfl 1 (by decide) (hts (.fieldLink RX6 35 "HoneyHouse$Tape" "kind" "I") (List.mem_of_getElem? (i := 4) rfl)) (fun _ h9 => h9) rfl dX6_advance_115 ?_
        refine lv_icmp_ne (tgt := 134) hx hb dX6_advance_118 (by decide) (fun c_271 => ?_) (fun c_271 => ?_)
        · have d_272 := n_ne (a := kq (btF f9 tl e9_247)) (b := kdF f9 tl a_2) (by omega) (by omega) c_271
          exact W.vret hx hb hr (fun t ht hW => ⟨⟨(), rfl, trivial, ws_250, tys, hsm, htx, by rw [ht]; exact hP, va_K.moved hW.alike hK, hD, (by rw [hsk, show teF f9 tl a_2 = e9_247 from te_kq (by omega) (by omega) (by omega) hr9_249 (Or.inr (fun q9 => d_272 (by rw [btF_t (by omega)]; exact q9))) hng]; exact e_253)⟩, hS.F ht⟩) hS.2.2 dX6_advance_134
        have d_273 := n_eq (a := kq (btF f9 tl e9_247)) (b := kdF f9 tl a_2) (by omega) (by omega) c_271
        refine lv_aload_n hx hb dX6_advance_121 rfl (lv_at hl 1 rfl) ?_
        refine lv_dup hx hb dX6_advance_122 rfl ?_
        refine va_get (D := D) (ci := 6) (v := .int (nI e9_247)) (C := RX6) (T := TX6) (N := 5) hx hb hts hin6 hown hK hP ktp e_253 rfl 3 (by decide) (hts (.fieldLink RX6 19 "HoneyHouse$Tape" "end" "I") (List.mem_of_getElem? (i := 1) rfl)) (fun _ h9 => h9) rfl dX6_advance_123 ?_
        refine lv_iconst (v := 1) hx hb dX6_advance_126 (by decide) ?_
        refine lv_iadd hx hb dX6_advance_127 ?_
        refine tp_i (y := nI (e9_247 + 1)) (nI_add e9_247 1) ?_
        refine va_put (D := D) (ci := 6) (v := .int (nI (e9_247 + 1))) (ty := .int) (C := RX6) (T := TX6) (N := 5) hx hb hts hin6 tyX6 tyX6_ok nmX6 hown hK hP hD hS ktp e_253 rfl 3 (by decide) (hts (.fieldLink RX6 19 "HoneyHouse$Tape" "end" "I") (List.mem_of_getElem? (i := 1) rfl)) (fun _ h9 => h9) rfl (tyX6_ok 3 (by decide)) rfl rfl (Nat.le_of_ble_eq_true rfl) dX6_advance_128 (fun H locs hP hD hS => ?_)
        have hP : va_P D vwCl (ws_250.set ktp (tp, .inr (6, [.int (nI tl), .int (nI (kdF f9 tl a_2)), .int (nI a_2), .int (nI (e9_247 + 1)), .ref bb]))) H := hP
        have hD : va_D A (ws_250.set ktp (tp, .inr (6, [.int (nI tl), .int (nI (kdF f9 tl a_2)), .int (nI a_2), .int (nI (e9_247 + 1)), .ref bb]))) := hD
        have hm_275 : sm ρ [6] ws_250 (ws_250.set ktp (tp, .inr (6, [.int (nI tl), .int (nI (kdF f9 tl a_2)), .int (nI a_2), .int (nI (e9_247 + 1)), .ref bb]))) := sm.flds e_253 (smF.c (smV.rf _) (smF.c (smV.rf _) (smF.c (smV.rf _) (smF.c (smV.i _ _) (smF.c (smV.rf _) (rfl)))))) (List.mem_singleton.mpr rfl) w_ktp
        have e_276 : (ws_250.set ktp (tp, .inr (6, [.int (nI tl), .int (nI (kdF f9 tl a_2)), .int (nI a_2), .int (nI (e9_247 + 1)), .ref bb])))[ktp]? = some (tp, .inr (6, [.int (nI tl), .int (nI (kdF f9 tl a_2)), .int (nI a_2), .int (nI (e9_247 + 1)), .ref bb])) := wset_self e_253
        generalize ws_250.set ktp (tp, .inr (6, [.int (nI tl), .int (nI (kdF f9 tl a_2)), .int (nI a_2), .int (nI (e9_247 + 1)), .ref bb])) = ws_274 at hP hD hm_275 e_276
        have e_277 := hm_275.keep hkb e_261
        have hsm := hsm.tr (hm_275.mono (by decide))
        have hlp_7 := hlp_7.tr (hm_275.mono (by decide))
        have hlp_252 := hlp_252.tr (hm_275.mono (by decide))
        refine lv_goto (tgt := 88) hx hb dX6_advance_131 (by decide) ?_
        exact ih_246 (e9_247 + 1) ws_274 _ _ ls (by show tl - (e9_247 + 1) < tl - e9_247; omega) ⟨hlp_252, e_276, (show a_2 ≤ (e9_247 + 1) ∧ (e9_247 + 1) ≤ tl from by omega), (show ∀ i : Nat, a_2 ≤ i → i < (e9_247 + 1) → kq (f9 i) = kdF f9 tl a_2 from fun i h1 h2 => (Nat.lt_or_ge i e9_247).elim (fun q9 => hr9_249 i h1 q9) (fun q9 => by rw [show i = e9_247 by omega, ← btF_t (f := f9) (n := tl) (b := e9_247) (by omega)]; exact d_273))⟩ hP hD hS (lv_sub hl [0, 1] rfl)
      have d_278 := n_ne (a := kdF f9 tl a_2) (b := 1) (by omega) (by omega) c_244
      refine lv_aload_n hx hb dX6_advance_74 rfl (lv_at hl 1 rfl) ?_
      refine va_get (D := D) (ci := 6) (v := .int (nI (kdF f9 tl a_2))) (C := RX6) (T := TX6) (N := 5) hx hb hts hin6 hown hK hP ktp e_242 rfl 1 (by decide) (hts (.fieldLink RX6 35 "HoneyHouse$Tape" "kind" "I") (List.mem_of_getElem? (i := 4) rfl)) (fun _ h9 => h9) rfl dX6_advance_75 ?_
      refine lv_iconst (v := 2) hx hb dX6_advance_78 (by decide) ?_
      refine lv_icmp_ne (tgt := 86) hx hb dX6_advance_79 (by decide) (fun c_279 => ?_) (fun c_279 => ?_)
      · have d_280 := n_ne (a := kdF f9 tl a_2) (b := 2) (by omega) (by omega) c_279
        refine lv_iconst (v := 0) hx hb dX6_advance_86 (by decide) ?_
        refine lv_istore_n (lv' := [(2, .int 0), (1, .int (nI a_2)), (0, .ref tp)]) hx hb dX6_advance_87 rfl hl (by decide) rfl (fun ls hl => ?_)
        refine lp_V (nL := 3) (σ := Nat) (lv := fun x9 => [(2, .int 0), (0, .ref tp)]) (μ := fun x9 => tl - x9) (J := fun x9 ws9 => sm ρ [6] ws_240 ws9 ∧ (ws9[ktp]? = some (tp, .inr (6, [.int (nI tl), .int (nI (kdF f9 tl a_2)), .int (nI a_2), .int (nI x9), .ref bb]))) ∧ (a_2 ≤ x9 ∧ x9 ≤ tl) ∧ (∀ i : Nat, a_2 ≤ i → i < x9 → kq (f9 i) = kdF f9 tl a_2) ∧ (x9 = a_2 + 1)) (fun x9 ws_286 H locs ls hj hP hD hS hl ih_281 => ?_) (a_2 + 1) ws_240 _ _ ls ⟨sm.rf _, e_242, (show a_2 ≤ (a_2 + 1) ∧ (a_2 + 1) ≤ tl from by omega), (show ∀ i : Nat, a_2 ≤ i → i < (a_2 + 1) → kq (f9 i) = kdF f9 tl a_2 from fun i h1 h2 => by rw [show i = a_2 by omega]; exact kq_kd hlt (hng _ hlt) (hnb.elim (fun q9 => by omega) id)), (show (a_2 + 1) = a_2 + 1 from rfl)⟩ hP hD hS (lv_sub hl [0, 2] rfl)
        obtain ⟨e9_282, hx9⟩ : ∃ y9, y9 = x9 := ⟨_, rfl⟩
        subst hx9
        replace hj : sm ρ [6] ws_240 ws_286 ∧ (ws_286[ktp]? = some (tp, .inr (6, [.int (nI tl), .int (nI (kdF f9 tl a_2)), .int (nI a_2), .int (nI e9_282), .ref bb]))) ∧ (a_2 ≤ e9_282 ∧ e9_282 ≤ tl) ∧ (∀ i : Nat, a_2 ≤ i → i < e9_282 → kq (f9 i) = kdF f9 tl a_2) ∧ (e9_282 = a_2 + 1) := hj
        obtain ⟨hm_287, e_289, he_283, hr9_284, hnr_285⟩ := hj
        obtain ⟨g_291, e_290, h_292⟩ := hm_287.obj e_242
        obtain ⟨z_293, z_294, z_295, z_296, rfl⟩ := smX6 h_292
        have e_297 := hm_287.keep hkb e_243
        have hsm := hsm.tr (hm_287.mono (by decide))
        have hlp_7 := hlp_7.tr (hm_287.mono (by decide))
        have hlp_288 := hm_287
        have hl : lv_has ls 3 [(2, .int 0), (0, .ref tp)] := hl
        refine lv_iload_n hx hb dX6_advance_88 rfl (lv_at hl 0 rfl) ?_
        refine lv_if_eq (tgt := 134) hx hb dX6_advance_89 (by decide) (fun c_298 => ?_) (fun c_298 => absurd (by decide) c_298)
        exact W.vret hx hb hr (fun t ht hW => ⟨⟨(), rfl, trivial, ws_286, tys, hsm, htx, by rw [ht]; exact hP, va_K.moved hW.alike hK, hD, (by rw [hsk, show teF f9 tl a_2 = e9_282 from (te_o (by omega) (by omega) (by omega)).trans (show a_2 + 1 = e9_282 by omega)]; exact e_289)⟩, hS.F ht⟩) hS.2.2 dX6_advance_134
      have d_299 := n_eq (a := kdF f9 tl a_2) (b := 2) (by omega) (by omega) c_279
      refine lv_iconst (v := 1) hx hb dX6_advance_82 (by decide) ?_
      refine lv_goto (tgt := 87) hx hb dX6_advance_83 (by decide) ?_
      refine lv_istore_n (lv' := [(2, .int 1), (1, .int (nI a_2)), (0, .ref tp)]) hx hb dX6_advance_87 rfl hl (by decide) rfl (fun ls hl => ?_)
      refine lp_V (nL := 3) (σ := Nat) (lv := fun x9 => [(2, .int 1), (0, .ref tp)]) (μ := fun x9 => tl - x9) (J := fun x9 ws9 => sm ρ [6] ws_240 ws9 ∧ (ws9[ktp]? = some (tp, .inr (6, [.int (nI tl), .int (nI (kdF f9 tl a_2)), .int (nI a_2), .int (nI x9), .ref bb]))) ∧ (a_2 ≤ x9 ∧ x9 ≤ tl) ∧ (∀ i : Nat, a_2 ≤ i → i < x9 → kq (f9 i) = kdF f9 tl a_2)) (fun x9 ws_304 H locs ls hj hP hD hS hl ih_300 => ?_) (a_2 + 1) ws_240 _ _ ls ⟨sm.rf _, e_242, (show a_2 ≤ (a_2 + 1) ∧ (a_2 + 1) ≤ tl from by omega), (show ∀ i : Nat, a_2 ≤ i → i < (a_2 + 1) → kq (f9 i) = kdF f9 tl a_2 from fun i h1 h2 => by rw [show i = a_2 by omega]; exact kq_kd hlt (hng _ hlt) (hnb.elim (fun q9 => by omega) id))⟩ hP hD hS (lv_sub hl [0, 2] rfl)
      obtain ⟨e9_301, hx9⟩ : ∃ y9, y9 = x9 := ⟨_, rfl⟩
      subst hx9
      replace hj : sm ρ [6] ws_240 ws_304 ∧ (ws_304[ktp]? = some (tp, .inr (6, [.int (nI tl), .int (nI (kdF f9 tl a_2)), .int (nI a_2), .int (nI e9_301), .ref bb]))) ∧ (a_2 ≤ e9_301 ∧ e9_301 ≤ tl) ∧ (∀ i : Nat, a_2 ≤ i → i < e9_301 → kq (f9 i) = kdF f9 tl a_2) := hj
      obtain ⟨hm_305, e_307, he_302, hr9_303⟩ := hj
      obtain ⟨g_309, e_308, h_310⟩ := hm_305.obj e_242
      obtain ⟨z_311, z_312, z_313, z_314, rfl⟩ := smX6 h_310
      have e_315 := hm_305.keep hkb e_243
      have hsm := hsm.tr (hm_305.mono (by decide))
      have hlp_7 := hlp_7.tr (hm_305.mono (by decide))
      have hlp_306 := hm_305
      have hl : lv_has ls 3 [(2, .int 1), (0, .ref tp)] := hl
      refine lv_iload_n hx hb dX6_advance_88 rfl (lv_at hl 0 rfl) ?_
      refine lv_if_eq (tgt := 134) hx hb dX6_advance_89 (by decide) (fun c_316 => absurd c_316 (by decide)) (fun c_316 => ?_)
      refine lv_aload_n hx hb dX6_advance_92 rfl (lv_at hl 1 rfl) ?_
      refine va_get (D := D) (ci := 6) (v := .int (nI e9_301)) (C := RX6) (T := TX6) (N := 5) hx hb hts hin6 hown hK hP ktp e_307 rfl 3 (by decide) (hts (.fieldLink RX6 19 "HoneyHouse$Tape" "end" "I") (List.mem_of_getElem? (i := 1) rfl)) (fun _ h9 => h9) rfl dX6_advance_93 ?_
      refine lv_aload_n hx hb dX6_advance_96 rfl (lv_at hl 1 rfl) ?_
      refine va_get (D := D) (ci := 6) (v := .int (nI tl)) (C := RX6) (T := TX6) (N := 5) hx hb hts hin6 hown hK hP ktp e_307 rfl 0 (by decide) (hts (.fieldLink RX6 15 "HoneyHouse$Tape" "length" "I") (List.mem_of_getElem? (i := 2) rfl)) (fun _ h9 => h9) rfl dX6_advance_97 ?_
      refine lv_icmp_ge (tgt := 134) hx hb dX6_advance_100 (by decide) (fun c_317 => ?_) (fun c_317 => ?_)
      · have d_318 := n_le (a := tl) (b := e9_301) (by omega) (by omega) c_317
        exact W.vret hx hb hr (fun t ht hW => ⟨⟨(), rfl, trivial, ws_304, tys, hsm, htx, by rw [ht]; exact hP, va_K.moved hW.alike hK, hD, (by rw [hsk, show teF f9 tl a_2 = e9_301 from te_kq (by omega) (by omega) (by omega) hr9_303 (Or.inl (by omega)) hng]; exact e_307)⟩, hS.F ht⟩) hS.2.2 dX6_advance_134
      have d_319 := n_nle (a := tl) (b := e9_301) (by omega) (by omega) c_317
      refine lv_aload_n hx hb dX6_advance_103 rfl (lv_at hl 1 rfl) ?_
      refine lv_aload_n hx hb dX6_advance_104 rfl (lv_at hl 1 rfl) ?_
      refine va_get (D := D) (ci := 6) (v := .int (nI e9_301)) (C := RX6) (T := TX6) (N := 5) hx hb hts hin6 hown hK hP ktp e_307 rfl 3 (by decide) (hts (.fieldLink RX6 19 "HoneyHouse$Tape" "end" "I") (List.mem_of_getElem? (i := 1) rfl)) (fun _ h9 => h9) rfl dX6_advance_105 ?_
      refine vp_callSi (W.runV (As := [.int (nI e9_301)]) (rest := []) ⟨hx, hb, hml, hown, hts⟩ (s_byteAt l D ws_304 tys tp ktp tl (nI (kdF f9 tl a_2)) (nI a_2) (nI e9_301) bb kbb cbb tbb fbb (nI e9_301) e_307 e_315 ubb) (cwV 1 hts gX6_advance_X6_byteAt rfl rfl rfl (by decide +kernel) ⟨Nat.le_of_ble_eq_true rfl, Nat.le_of_ble_eq_true rfl⟩) ⟨fun a U g mk q => ⟨q.1, q.2.1, va_K.moved (u := U) (U := U.calling g mk a) (Vm.Alike.refl U.vm) q.2.2⟩, va_recv hK hP (ci := 6) (q0 := ktp) rfl e_307, fun U hU hW => ⟨rfl, by rw [hU]; exact hP, va_K.moved hW.alike hK⟩⟩ rfl rfl hl.1 rfl (lv_room (Nat.le_of_ble_eq_true rfl)) dX6_advance_108 ⟨Nat.le_of_ble_eq_true rfl, Nat.le_of_ble_eq_true rfl⟩) (fun r_320 k_321 => ?_)
      obtain rfl : r_320 = btF f9 tl e9_301 := ba_nat k_321 htl (by omega) hbf
      refine vp_callSi (W.runS (As := [.int (btF f9 tl e9_301)]) (rest := []) ⟨hx, hb, hml, hown, hts⟩ (s_kindOf l (btF f9 tl e9_301)) (va_cwS 1 hts gX6_advance_X6_kindOf rfl rfl rfl (by decide +kernel) ⟨Nat.le_of_ble_eq_true rfl, Nat.le_of_ble_eq_true rfl⟩) ⟨fun a U g mk q => q, fun U hU hW => ⟨rfl, trivial⟩⟩ rfl rfl hl.1 rfl (lv_room (Nat.le_of_ble_eq_true rfl)) dX6_advance_111 ⟨Nat.le_of_ble_eq_true rfl, Nat.le_of_ble_eq_true rfl⟩) (fun r_322 k_323 => ?_)
      subst k_323; have hk_324 := kq_le (c := btF f9 tl e9_301)
      refine lv_aload_n hx hb dX6_advance_114 rfl (lv_at hl 1 rfl) ?_
      refine va_get (D := D) (ci := 6) (v := .int (nI (kdF f9 tl a_2))) (C := RX6) (T := TX6) (N := 5) hx hb hts hin6 hown hK hP ktp e_307 rfl 1 (by decide) (hts (.fieldLink RX6 35 "HoneyHouse$Tape" "kind" "I") (List.mem_of_getElem? (i := 4) rfl)) (fun _ h9 => h9) rfl dX6_advance_115 ?_
      refine lv_icmp_ne (tgt := 134) hx hb dX6_advance_118 (by decide) (fun c_325 => ?_) (fun c_325 => ?_)
      · have d_326 := n_ne (a := kq (btF f9 tl e9_301)) (b := kdF f9 tl a_2) (by omega) (by omega) c_325
        exact W.vret hx hb hr (fun t ht hW => ⟨⟨(), rfl, trivial, ws_304, tys, hsm, htx, by rw [ht]; exact hP, va_K.moved hW.alike hK, hD, (by rw [hsk, show teF f9 tl a_2 = e9_301 from te_kq (by omega) (by omega) (by omega) hr9_303 (Or.inr (fun q9 => d_326 (by rw [btF_t (by omega)]; exact q9))) hng]; exact e_307)⟩, hS.F ht⟩) hS.2.2 dX6_advance_134
      have d_327 := n_eq (a := kq (btF f9 tl e9_301)) (b := kdF f9 tl a_2) (by omega) (by omega) c_325
      refine lv_aload_n hx hb dX6_advance_121 rfl (lv_at hl 1 rfl) ?_
      refine lv_dup hx hb dX6_advance_122 rfl ?_
      refine va_get (D := D) (ci := 6) (v := .int (nI e9_301)) (C := RX6) (T := TX6) (N := 5) hx hb hts hin6 hown hK hP ktp e_307 rfl 3 (by decide) (hts (.fieldLink RX6 19 "HoneyHouse$Tape" "end" "I") (List.mem_of_getElem? (i := 1) rfl)) (fun _ h9 => h9) rfl dX6_advance_123 ?_
      refine lv_iconst (v := 1) hx hb dX6_advance_126 (by decide) ?_
      refine lv_iadd hx hb dX6_advance_127 ?_
      refine tp_i (y := nI (e9_301 + 1)) (nI_add e9_301 1) ?_
      refine va_put (D := D) (ci := 6) (v := .int (nI (e9_301 + 1))) (ty := .int) (C := RX6) (T := TX6) (N := 5) hx hb hts hin6 tyX6 tyX6_ok nmX6 hown hK hP hD hS ktp e_307 rfl 3 (by decide) (hts (.fieldLink RX6 19 "HoneyHouse$Tape" "end" "I") (List.mem_of_getElem? (i := 1) rfl)) (fun _ h9 => h9) rfl (tyX6_ok 3 (by decide)) rfl rfl (Nat.le_of_ble_eq_true rfl) dX6_advance_128 (fun H locs hP hD hS => ?_)
      have hP : va_P D vwCl (ws_304.set ktp (tp, .inr (6, [.int (nI tl), .int (nI (kdF f9 tl a_2)), .int (nI a_2), .int (nI (e9_301 + 1)), .ref bb]))) H := hP
      have hD : va_D A (ws_304.set ktp (tp, .inr (6, [.int (nI tl), .int (nI (kdF f9 tl a_2)), .int (nI a_2), .int (nI (e9_301 + 1)), .ref bb]))) := hD
      have hm_329 : sm ρ [6] ws_304 (ws_304.set ktp (tp, .inr (6, [.int (nI tl), .int (nI (kdF f9 tl a_2)), .int (nI a_2), .int (nI (e9_301 + 1)), .ref bb]))) := sm.flds e_307 (smF.c (smV.rf _) (smF.c (smV.rf _) (smF.c (smV.rf _) (smF.c (smV.i _ _) (smF.c (smV.rf _) (rfl)))))) (List.mem_singleton.mpr rfl) w_ktp
      have e_330 : (ws_304.set ktp (tp, .inr (6, [.int (nI tl), .int (nI (kdF f9 tl a_2)), .int (nI a_2), .int (nI (e9_301 + 1)), .ref bb])))[ktp]? = some (tp, .inr (6, [.int (nI tl), .int (nI (kdF f9 tl a_2)), .int (nI a_2), .int (nI (e9_301 + 1)), .ref bb])) := wset_self e_307
      generalize ws_304.set ktp (tp, .inr (6, [.int (nI tl), .int (nI (kdF f9 tl a_2)), .int (nI a_2), .int (nI (e9_301 + 1)), .ref bb])) = ws_328 at hP hD hm_329 e_330
      have e_331 := hm_329.keep hkb e_315
      have hsm := hsm.tr (hm_329.mono (by decide))
      have hlp_7 := hlp_7.tr (hm_329.mono (by decide))
      have hlp_306 := hlp_306.tr (hm_329.mono (by decide))
      refine lv_goto (tgt := 88) hx hb dX6_advance_131 (by decide) ?_
      exact ih_300 (e9_301 + 1) ws_328 _ _ ls (by show tl - (e9_301 + 1) < tl - e9_301; omega) ⟨hlp_306, e_330, (show a_2 ≤ (e9_301 + 1) ∧ (e9_301 + 1) ≤ tl from by omega), (show ∀ i : Nat, a_2 ≤ i → i < (e9_301 + 1) → kq (f9 i) = kdF f9 tl a_2 from fun i h1 h2 => (Nat.lt_or_ge i e9_301).elim (fun q9 => hr9_303 i h1 q9) (fun q9 => by rw [show i = e9_301 by omega, ← btF_t (f := f9) (n := tl) (b := e9_301) (by omega)]; exact d_327))⟩ hP hD hS (lv_sub hl [0, 1] rfl)
    have d_332 := n_eq (a := kdF f9 tl a_2) (b := 0) (by omega) (by omega) c_238
    refine lv_iload_n hx hb dX6_advance_56 rfl (lv_at hl 0 rfl) ?_
    refine lv_goto (tgt := 63) hx hb dX6_advance_57 (by decide) ?_
    refine va_put (D := D) (ci := 6) (v := .int (nI a_2)) (ty := .int) (C := RX6) (T := TX6) (N := 5) hx hb hts hin6 tyX6 tyX6_ok nmX6 hown hK hP hD hS ktp e_236 rfl 3 (by decide) (hts (.fieldLink RX6 19 "HoneyHouse$Tape" "end" "I") (List.mem_of_getElem? (i := 1) rfl)) (fun _ h9 => h9) rfl (tyX6_ok 3 (by decide)) rfl rfl (Nat.le_of_ble_eq_true rfl) dX6_advance_63 (fun H locs hP hD hS => ?_)
    have hP : va_P D vwCl (ws_234.set ktp (tp, .inr (6, [.int (nI tl), .int (nI (kdF f9 tl a_2)), .int (nI a_2), .int (nI a_2), .ref bb]))) H := hP
    have hD : va_D A (ws_234.set ktp (tp, .inr (6, [.int (nI tl), .int (nI (kdF f9 tl a_2)), .int (nI a_2), .int (nI a_2), .ref bb]))) := hD
    have hm_334 : sm ρ [6] ws_234 (ws_234.set ktp (tp, .inr (6, [.int (nI tl), .int (nI (kdF f9 tl a_2)), .int (nI a_2), .int (nI a_2), .ref bb]))) := sm.flds e_236 (smF.c (smV.rf _) (smF.c (smV.rf _) (smF.c (smV.rf _) (smF.c (smV.i _ _) (smF.c (smV.rf _) (rfl)))))) (List.mem_singleton.mpr rfl) w_ktp
    have e_335 : (ws_234.set ktp (tp, .inr (6, [.int (nI tl), .int (nI (kdF f9 tl a_2)), .int (nI a_2), .int (nI a_2), .ref bb])))[ktp]? = some (tp, .inr (6, [.int (nI tl), .int (nI (kdF f9 tl a_2)), .int (nI a_2), .int (nI a_2), .ref bb])) := wset_self e_236
    generalize ws_234.set ktp (tp, .inr (6, [.int (nI tl), .int (nI (kdF f9 tl a_2)), .int (nI a_2), .int (nI a_2), .ref bb])) = ws_333 at hP hD hm_334 e_335
    have e_336 := hm_334.keep hkb e_237
    have hsm := hsm.tr (hm_334.mono (by decide))
    have hlp_7 := hlp_7.tr (hm_334.mono (by decide))
    refine lv_aload_n hx hb dX6_advance_66 rfl (lv_at hl 1 rfl) ?_
    refine va_get (D := D) (ci := 6) (v := .int (nI (kdF f9 tl a_2))) (C := RX6) (T := TX6) (N := 5) hx hb hts hin6 hown hK hP ktp e_335 rfl 1 (by decide) (hts (.fieldLink RX6 35 "HoneyHouse$Tape" "kind" "I") (List.mem_of_getElem? (i := 4) rfl)) (fun _ h9 => h9) rfl dX6_advance_67 ?_
    refine lv_iconst (v := 1) hx hb dX6_advance_70 (by decide) ?_
    refine lv_icmp_eq (tgt := 82) hx hb dX6_advance_71 (by decide) (fun c_337 => ?_) (fun c_337 => ?_)
    · have d_338 := n_eq (a := kdF f9 tl a_2) (b := 1) (by omega) (by omega) c_337
      refine lv_iconst (v := 1) hx hb dX6_advance_82 (by decide) ?_
      refine lv_goto (tgt := 87) hx hb dX6_advance_83 (by decide) ?_
      refine lv_istore_n (lv' := [(2, .int 1), (1, .int (nI a_2)), (0, .ref tp)]) hx hb dX6_advance_87 rfl hl (by decide) rfl (fun ls hl => ?_)
      refine lp_V (nL := 3) (σ := Nat) (lv := fun x9 => [(2, .int 1), (0, .ref tp)]) (μ := fun x9 => tl - x9) (J := fun x9 ws9 => sm ρ [6] ws_333 ws9 ∧ (ws9[ktp]? = some (tp, .inr (6, [.int (nI tl), .int (nI (kdF f9 tl a_2)), .int (nI a_2), .int (nI x9), .ref bb]))) ∧ (a_2 ≤ x9 ∧ x9 ≤ tl) ∧ (∀ i : Nat, a_2 ≤ i → i < x9 → kq (f9 i) = kdF f9 tl a_2)) (fun x9 ws_343 H locs ls hj hP hD hS hl ih_339 => ?_) a_2 ws_333 _ _ ls ⟨sm.rf _, e_335, (show a_2 ≤ a_2 ∧ a_2 ≤ tl from by omega), (show ∀ i : Nat, a_2 ≤ i → i < a_2 → kq (f9 i) = kdF f9 tl a_2 from fun i h1 h2 => absurd h2 (by omega))⟩ hP hD hS (lv_sub hl [0, 2] rfl)
      obtain ⟨e9_340, hx9⟩ : ∃ y9, y9 = x9 := ⟨_, rfl⟩
      subst hx9
      replace hj : sm ρ [6] ws_333 ws_343 ∧ (ws_343[ktp]? = some (tp, .inr (6, [.int (nI tl), .int (nI (kdF f9 tl a_2)), .int (nI a_2), .int (nI e9_340), .ref bb]))) ∧ (a_2 ≤ e9_340 ∧ e9_340 ≤ tl) ∧ (∀ i : Nat, a_2 ≤ i → i < e9_340 → kq (f9 i) = kdF f9 tl a_2) := hj
      obtain ⟨hm_344, e_346, he_341, hr9_342⟩ := hj
      obtain ⟨g_348, e_347, h_349⟩ := hm_344.obj e_335
      obtain ⟨z_350, z_351, z_352, z_353, rfl⟩ := smX6 h_349
      have e_354 := hm_344.keep hkb e_336
      have hsm := hsm.tr (hm_344.mono (by decide))
      have hlp_7 := hlp_7.tr (hm_344.mono (by decide))
      have hlp_345 := hm_344
      have hl : lv_has ls 3 [(2, .int 1), (0, .ref tp)] := hl
      refine lv_iload_n hx hb dX6_advance_88 rfl (lv_at hl 0 rfl) ?_
      refine lv_if_eq (tgt := 134) hx hb dX6_advance_89 (by decide) (fun c_355 => absurd c_355 (by decide)) (fun c_355 => ?_)
      refine lv_aload_n hx hb dX6_advance_92 rfl (lv_at hl 1 rfl) ?_
      refine va_get (D := D) (ci := 6) (v := .int (nI e9_340)) (C := RX6) (T := TX6) (N := 5) hx hb hts hin6 hown hK hP ktp e_346 rfl 3 (by decide) (hts (.fieldLink RX6 19 "HoneyHouse$Tape" "end" "I") (List.mem_of_getElem? (i := 1) rfl)) (fun _ h9 => h9) rfl dX6_advance_93 ?_
      refine lv_aload_n hx hb dX6_advance_96 rfl (lv_at hl 1 rfl) ?_
      refine va_get (D := D) (ci := 6) (v := .int (nI tl)) (C := RX6) (T := TX6) (N := 5) hx hb hts hin6 hown hK hP ktp e_346 rfl 0 (by decide) (hts (.fieldLink RX6 15 "HoneyHouse$Tape" "length" "I") (List.mem_of_getElem? (i := 2) rfl)) (fun _ h9 => h9) rfl dX6_advance_97 ?_
      refine lv_icmp_ge (tgt := 134) hx hb dX6_advance_100 (by decide) (fun c_356 => ?_) (fun c_356 => ?_)
      · have d_357 := n_le (a := tl) (b := e9_340) (by omega) (by omega) c_356
        exact W.vret hx hb hr (fun t ht hW => ⟨⟨(), rfl, trivial, ws_343, tys, hsm, htx, by rw [ht]; exact hP, va_K.moved hW.alike hK, hD, (by rw [hsk, show teF f9 tl a_2 = e9_340 from te_kq (by omega) (by omega) (by omega) hr9_342 (Or.inl (by omega)) hng]; exact e_346)⟩, hS.F ht⟩) hS.2.2 dX6_advance_134
      have d_358 := n_nle (a := tl) (b := e9_340) (by omega) (by omega) c_356
      refine lv_aload_n hx hb dX6_advance_103 rfl (lv_at hl 1 rfl) ?_
      refine lv_aload_n hx hb dX6_advance_104 rfl (lv_at hl 1 rfl) ?_
      refine va_get (D := D) (ci := 6) (v := .int (nI e9_340)) (C := RX6) (T := TX6) (N := 5) hx hb hts hin6 hown hK hP ktp e_346 rfl 3 (by decide) (hts (.fieldLink RX6 19 "HoneyHouse$Tape" "end" "I") (List.mem_of_getElem? (i := 1) rfl)) (fun _ h9 => h9) rfl dX6_advance_105 ?_
      refine vp_callSi (W.runV (As := [.int (nI e9_340)]) (rest := []) ⟨hx, hb, hml, hown, hts⟩ (s_byteAt l D ws_343 tys tp ktp tl (nI (kdF f9 tl a_2)) (nI a_2) (nI e9_340) bb kbb cbb tbb fbb (nI e9_340) e_346 e_354 ubb) (cwV 1 hts gX6_advance_X6_byteAt rfl rfl rfl (by decide +kernel) ⟨Nat.le_of_ble_eq_true rfl, Nat.le_of_ble_eq_true rfl⟩) ⟨fun a U g mk q => ⟨q.1, q.2.1, va_K.moved (u := U) (U := U.calling g mk a) (Vm.Alike.refl U.vm) q.2.2⟩, va_recv hK hP (ci := 6) (q0 := ktp) rfl e_346, fun U hU hW => ⟨rfl, by rw [hU]; exact hP, va_K.moved hW.alike hK⟩⟩ rfl rfl hl.1 rfl (lv_room (Nat.le_of_ble_eq_true rfl)) dX6_advance_108 ⟨Nat.le_of_ble_eq_true rfl, Nat.le_of_ble_eq_true rfl⟩) (fun r_359 k_360 => ?_)
      obtain rfl : r_359 = btF f9 tl e9_340 := ba_nat k_360 htl (by omega) hbf
      refine vp_callSi (W.runS (As := [.int (btF f9 tl e9_340)]) (rest := []) ⟨hx, hb, hml, hown, hts⟩ (s_kindOf l (btF f9 tl e9_340)) (va_cwS 1 hts gX6_advance_X6_kindOf rfl rfl rfl (by decide +kernel) ⟨Nat.le_of_ble_eq_true rfl, Nat.le_of_ble_eq_true rfl⟩) ⟨fun a U g mk q => q, fun U hU hW => ⟨rfl, trivial⟩⟩ rfl rfl hl.1 rfl (lv_room (Nat.le_of_ble_eq_true rfl)) dX6_advance_111 ⟨Nat.le_of_ble_eq_true rfl, Nat.le_of_ble_eq_true rfl⟩) (fun r_361 k_362 => ?_)
      subst k_362; have hk_363 := kq_le (c := btF f9 tl e9_340)
      refine lv_aload_n hx hb dX6_advance_114 rfl (lv_at hl 1 rfl) ?_
      refine va_get (D := D) (ci := 6) (v := .int (nI (kdF f9 tl a_2))) (C := RX6) (T := TX6) (N := 5) hx hb hts hin6 hown hK hP ktp e_346 rfl 1 (by decide) (hts (.fieldLink RX6 35 "HoneyHouse$Tape" "kind" "I") (List.mem_of_getElem? (i := 4) rfl)) (fun _ h9 => h9) rfl dX6_advance_115 ?_
      refine lv_icmp_ne (tgt := 134) hx hb dX6_advance_118 (by decide) (fun c_364 => ?_) (fun c_364 => ?_)
      · have d_365 := n_ne (a := kq (btF f9 tl e9_340)) (b := kdF f9 tl a_2) (by omega) (by omega) c_364
        exact W.vret hx hb hr (fun t ht hW => ⟨⟨(), rfl, trivial, ws_343, tys, hsm, htx, by rw [ht]; exact hP, va_K.moved hW.alike hK, hD, (by rw [hsk, show teF f9 tl a_2 = e9_340 from te_kq (by omega) (by omega) (by omega) hr9_342 (Or.inr (fun q9 => d_365 (by rw [btF_t (by omega)]; exact q9))) hng]; exact e_346)⟩, hS.F ht⟩) hS.2.2 dX6_advance_134
      have d_366 := n_eq (a := kq (btF f9 tl e9_340)) (b := kdF f9 tl a_2) (by omega) (by omega) c_364
      refine lv_aload_n hx hb dX6_advance_121 rfl (lv_at hl 1 rfl) ?_
      refine lv_dup hx hb dX6_advance_122 rfl ?_
      refine va_get (D := D) (ci := 6) (v := .int (nI e9_340)) (C := RX6) (T := TX6) (N := 5) hx hb hts hin6 hown hK hP ktp e_346 rfl 3 (by decide) (hts (.fieldLink RX6 19 "HoneyHouse$Tape" "end" "I") (List.mem_of_getElem? (i := 1) rfl)) (fun _ h9 => h9) rfl dX6_advance_123 ?_
      refine lv_iconst (v := 1) hx hb dX6_advance_126 (by decide) ?_
      refine lv_iadd hx hb dX6_advance_127 ?_
      refine tp_i (y := nI (e9_340 + 1)) (nI_add e9_340 1) ?_
      refine va_put (D := D) (ci := 6) (v := .int (nI (e9_340 + 1))) (ty := .int) (C := RX6) (T := TX6) (N := 5) hx hb hts hin6 tyX6 tyX6_ok nmX6 hown hK hP hD hS ktp e_346 rfl 3 (by decide) (hts (.fieldLink RX6 19 "HoneyHouse$Tape" "end" "I") (List.mem_of_getElem? (i := 1) rfl)) (fun _ h9 => h9) rfl (tyX6_ok 3 (by decide)) rfl rfl (Nat.le_of_ble_eq_true rfl) dX6_advance_128 (fun H locs hP hD hS => ?_)
      have hP : va_P D vwCl (ws_343.set ktp (tp, .inr (6, [.int (nI tl), .int (nI (kdF f9 tl a_2)), .int (nI a_2), .int (nI (e9_340 + 1)), .ref bb]))) H := hP
      have hD : va_D A (ws_343.set ktp (tp, .inr (6, [.int (nI tl), .int (nI (kdF f9 tl a_2)), .int (nI a_2), .int (nI (e9_340 + 1)), .ref bb]))) := hD
      have hm_368 : sm ρ [6] ws_343 (ws_343.set ktp (tp, .inr (6, [.int (nI tl), .int (nI (kdF f9 tl a_2)), .int (nI a_2), .int (nI (e9_340 + 1)), .ref bb]))) := sm.flds e_346 (smF.c (smV.rf _) (smF.c (smV.rf _) (smF.c (smV.rf _) (smF.c (smV.i _ _) (smF.c (smV.rf _) (rfl)))))) (List.mem_singleton.mpr rfl) w_ktp
      have e_369 : (ws_343.set ktp (tp, .inr (6, [.int (nI tl), .int (nI (kdF f9 tl a_2)), .int (nI a_2), .int (nI (e9_340 + 1)), .ref bb])))[ktp]? = some (tp, .inr (6, [.int (nI tl), .int (nI (kdF f9 tl a_2)), .int (nI a_2), .int (nI (e9_340 + 1)), .ref bb])) := wset_self e_346
      generalize ws_343.set ktp (tp, .inr (6, [.int (nI tl), .int (nI (kdF f9 tl a_2)), .int (nI a_2), .int (nI (e9_340 + 1)), .ref bb])) = ws_367 at hP hD hm_368 e_369
      have e_370 := hm_368.keep hkb e_354
      have hsm := hsm.tr (hm_368.mono (by decide))
      have hlp_7 := hlp_7.tr (hm_368.mono (by decide))
      have hlp_345 := hlp_345.tr (hm_368.mono (by decide))
      refine lv_goto (tgt := 88) hx hb dX6_advance_131 (by decide) ?_
      exact ih_339 (e9_340 + 1) ws_367 _ _ ls (by show tl - (e9_340 + 1) < tl - e9_340; omega) ⟨hlp_345, e_369, (show a_2 ≤ (e9_340 + 1) ∧ (e9_340 + 1) ≤ tl from by omega), (show ∀ i : Nat, a_2 ≤ i → i < (e9_340 + 1) → kq (f9 i) = kdF f9 tl a_2 from fun i h1 h2 => (Nat.lt_or_ge i e9_340).elim (fun q9 => hr9_342 i h1 q9) (fun q9 => by rw [show i = e9_340 by omega, ← btF_t (f := f9) (n := tl) (b := e9_340) (by omega)]; exact d_366))⟩ hP hD hS (lv_sub hl [0, 1] rfl)
    have d_371 := n_ne (a := kdF f9 tl a_2) (b := 1) (by omega) (by omega) c_337
    refine lv_aload_n hx hb dX6_advance_74 rfl (lv_at hl 1 rfl) ?_
    refine va_get (D := D) (ci := 6) (v := .int (nI (kdF f9 tl a_2))) (C := RX6) (T := TX6) (N := 5) hx hb hts hin6 hown hK hP ktp e_335 rfl 1 (by decide) (hts (.fieldLink RX6 35 "HoneyHouse$Tape" "kind" "I") (List.mem_of_getElem? (i := 4) rfl)) (fun _ h9 => h9) rfl dX6_advance_75 ?_
    refine lv_iconst (v := 2) hx hb dX6_advance_78 (by decide) ?_
    refine lv_icmp_ne (tgt := 86) hx hb dX6_advance_79 (by decide) (fun c_372 => ?_) (fun c_372 => ?_)
    · have d_373 := n_ne (a := kdF f9 tl a_2) (b := 2) (by omega) (by omega) c_372
      refine lv_iconst (v := 0) hx hb dX6_advance_86 (by decide) ?_
      refine lv_istore_n (lv' := [(2, .int 0), (1, .int (nI a_2)), (0, .ref tp)]) hx hb dX6_advance_87 rfl hl (by decide) rfl (fun ls hl => ?_)
      refine lp_V (nL := 3) (σ := Nat) (lv := fun x9 => [(2, .int 0), (0, .ref tp)]) (μ := fun x9 => tl - x9) (J := fun x9 ws9 => sm ρ [6] ws_333 ws9 ∧ (ws9[ktp]? = some (tp, .inr (6, [.int (nI tl), .int (nI (kdF f9 tl a_2)), .int (nI a_2), .int (nI x9), .ref bb]))) ∧ (a_2 ≤ x9 ∧ x9 ≤ tl) ∧ (∀ i : Nat, a_2 ≤ i → i < x9 → kq (f9 i) = kdF f9 tl a_2) ∧ (x9 = a_2)) (fun x9 ws_379 H locs ls hj hP hD hS hl ih_374 => ?_) a_2 ws_333 _ _ ls ⟨sm.rf _, e_335, (show a_2 ≤ a_2 ∧ a_2 ≤ tl from by omega), (show ∀ i : Nat, a_2 ≤ i → i < a_2 → kq (f9 i) = kdF f9 tl a_2 from fun i h1 h2 => absurd h2 (by omega)), (show a_2 = a_2 from rfl)⟩ hP hD hS (lv_sub hl [0, 2] rfl)
      obtain ⟨e9_375, hx9⟩ : ∃ y9, y9 = x9 := ⟨_, rfl⟩
      subst hx9
      replace hj : sm ρ [6] ws_333 ws_379 ∧ (ws_379[ktp]? = some (tp, .inr (6, [.int (nI tl), .int (nI (kdF f9 tl a_2)), .int (nI a_2), .int (nI e9_375), .ref bb]))) ∧ (a_2 ≤ e9_375 ∧ e9_375 ≤ tl) ∧ (∀ i : Nat, a_2 ≤ i → i < e9_375 → kq (f9 i) = kdF f9 tl a_2) ∧ (e9_375 = a_2) := hj
      obtain ⟨hm_380, e_382, he_376, hr9_377, hnr_378⟩ := hj
      obtain ⟨g_384, e_383, h_385⟩ := hm_380.obj e_335
      obtain ⟨z_386, z_387, z_388, z_389, rfl⟩ := smX6 h_385
      have e_390 := hm_380.keep hkb e_336
      have hsm := hsm.tr (hm_380.mono (by decide))
      have hlp_7 := hlp_7.tr (hm_380.mono (by decide))
      have hlp_381 := hm_380
      have hl : lv_has ls 3 [(2, .int 0), (0, .ref tp)] := hl
      refine lv_iload_n hx hb dX6_advance_88 rfl (lv_at hl 0 rfl) ?_
      refine lv_if_eq (tgt := 134) hx hb dX6_advance_89 (by decide) (fun c_391 => ?_) (fun c_391 => absurd (by decide) c_391)
      exact W.vret hx hb hr (fun t ht hW => ⟨⟨(), rfl, trivial, ws_379, tys, hsm, htx, by rw [ht]; exact hP, va_K.moved hW.alike hK, hD, (by rw [hsk, show teF f9 tl a_2 = e9_375 from (teF_0 (by omega)).trans (show a_2 = e9_375 by omega)]; exact e_382)⟩, hS.F ht⟩) hS.2.2 dX6_advance_134
    have d_392 := n_eq (a := kdF f9 tl a_2) (b := 2) (by omega) (by omega) c_372
    refine lv_iconst (v := 1) hx hb dX6_advance_82 (by decide) ?_
    refine lv_goto (tgt := 87) hx hb dX6_advance_83 (by decide) ?_
    refine lv_istore_n (lv' := [(2, .int 1), (1, .int (nI a_2)), (0, .ref tp)]) hx hb dX6_advance_87 rfl hl (by decide) rfl (fun ls hl => ?_)
    refine lp_V (nL := 3) (σ := Nat) (lv := fun x9 => [(2, .int 1), (0, .ref tp)]) (μ := fun x9 => tl - x9) (J := fun x9 ws9 => sm ρ [6] ws_333 ws9 ∧ (ws9[ktp]? = some (tp, .inr (6, [.int (nI tl), .int (nI (kdF f9 tl a_2)), .int (nI a_2), .int (nI x9), .ref bb]))) ∧ (a_2 ≤ x9 ∧ x9 ≤ tl) ∧ (∀ i : Nat, a_2 ≤ i → i < x9 → kq (f9 i) = kdF f9 tl a_2)) (fun x9 ws_397 H locs ls hj hP hD hS hl ih_393 => ?_) a_2 ws_333 _ _ ls ⟨sm.rf _, e_335, (show a_2 ≤ a_2 ∧ a_2 ≤ tl from by omega), (show ∀ i : Nat, a_2 ≤ i → i < a_2 → kq (f9 i) = kdF f9 tl a_2 from fun i h1 h2 => absurd h2 (by omega))⟩ hP hD hS (lv_sub hl [0, 2] rfl)
    obtain ⟨e9_394, hx9⟩ : ∃ y9, y9 = x9 := ⟨_, rfl⟩
    subst hx9
    replace hj : sm ρ [6] ws_333 ws_397 ∧ (ws_397[ktp]? = some (tp, .inr (6, [.int (nI tl), .int (nI (kdF f9 tl a_2)), .int (nI a_2), .int (nI e9_394), .ref bb]))) ∧ (a_2 ≤ e9_394 ∧ e9_394 ≤ tl) ∧ (∀ i : Nat, a_2 ≤ i → i < e9_394 → kq (f9 i) = kdF f9 tl a_2) := hj
    obtain ⟨hm_398, e_400, he_395, hr9_396⟩ := hj
    obtain ⟨g_402, e_401, h_403⟩ := hm_398.obj e_335
    obtain ⟨z_404, z_405, z_406, z_407, rfl⟩ := smX6 h_403
    have e_408 := hm_398.keep hkb e_336
    have hsm := hsm.tr (hm_398.mono (by decide))
    have hlp_7 := hlp_7.tr (hm_398.mono (by decide))
    have hlp_399 := hm_398
    have hl : lv_has ls 3 [(2, .int 1), (0, .ref tp)] := hl
    refine lv_iload_n hx hb dX6_advance_88 rfl (lv_at hl 0 rfl) ?_
    refine lv_if_eq (tgt := 134) hx hb dX6_advance_89 (by decide) (fun c_409 => absurd c_409 (by decide)) (fun c_409 => ?_)
    refine lv_aload_n hx hb dX6_advance_92 rfl (lv_at hl 1 rfl) ?_
    refine va_get (D := D) (ci := 6) (v := .int (nI e9_394)) (C := RX6) (T := TX6) (N := 5) hx hb hts hin6 hown hK hP ktp e_400 rfl 3 (by decide) (hts (.fieldLink RX6 19 "HoneyHouse$Tape" "end" "I") (List.mem_of_getElem? (i := 1) rfl)) (fun _ h9 => h9) rfl dX6_advance_93 ?_
    refine lv_aload_n hx hb dX6_advance_96 rfl (lv_at hl 1 rfl) ?_
    refine va_get (D := D) (ci := 6) (v := .int (nI tl)) (C := RX6) (T := TX6) (N := 5) hx hb hts hin6 hown hK hP ktp e_400 rfl 0 (by decide) (hts (.fieldLink RX6 15 "HoneyHouse$Tape" "length" "I") (List.mem_of_getElem? (i := 2) rfl)) (fun _ h9 => h9) rfl dX6_advance_97 ?_
    refine lv_icmp_ge (tgt := 134) hx hb dX6_advance_100 (by decide) (fun c_410 => ?_) (fun c_410 => ?_)
    · have d_411 := n_le (a := tl) (b := e9_394) (by omega) (by omega) c_410
      exact W.vret hx hb hr (fun t ht hW => ⟨⟨(), rfl, trivial, ws_397, tys, hsm, htx, by rw [ht]; exact hP, va_K.moved hW.alike hK, hD, (by rw [hsk, show teF f9 tl a_2 = e9_394 from te_kq (by omega) (by omega) (by omega) hr9_396 (Or.inl (by omega)) hng]; exact e_400)⟩, hS.F ht⟩) hS.2.2 dX6_advance_134
    have d_412 := n_nle (a := tl) (b := e9_394) (by omega) (by omega) c_410
    refine lv_aload_n hx hb dX6_advance_103 rfl (lv_at hl 1 rfl) ?_
    refine lv_aload_n hx hb dX6_advance_104 rfl (lv_at hl 1 rfl) ?_
    refine va_get (D := D) (ci := 6) (v := .int (nI e9_394)) (C := RX6) (T := TX6) (N := 5) hx hb hts hin6 hown hK hP ktp e_400 rfl 3 (by decide) (hts (.fieldLink RX6 19 "HoneyHouse$Tape" "end" "I") (List.mem_of_getElem? (i := 1) rfl)) (fun _ h9 => h9) rfl dX6_advance_105 ?_
    refine vp_callSi (W.runV (As := [.int (nI e9_394)]) (rest := []) ⟨hx, hb, hml, hown, hts⟩ (s_byteAt l D ws_397 tys tp ktp tl (nI (kdF f9 tl a_2)) (nI a_2) (nI e9_394) bb kbb cbb tbb fbb (nI e9_394) e_400 e_408 ubb) (cwV 1 hts gX6_advance_X6_byteAt rfl rfl rfl (by decide +kernel) ⟨Nat.le_of_ble_eq_true rfl, Nat.le_of_ble_eq_true rfl⟩) ⟨fun a U g mk q => ⟨q.1, q.2.1, va_K.moved (u := U) (U := U.calling g mk a) (Vm.Alike.refl U.vm) q.2.2⟩, va_recv hK hP (ci := 6) (q0 := ktp) rfl e_400, fun U hU hW => ⟨rfl, by rw [hU]; exact hP, va_K.moved hW.alike hK⟩⟩ rfl rfl hl.1 rfl (lv_room (Nat.le_of_ble_eq_true rfl)) dX6_advance_108 ⟨Nat.le_of_ble_eq_true rfl, Nat.le_of_ble_eq_true rfl⟩) (fun r_413 k_414 => ?_)
    obtain rfl : r_413 = btF f9 tl e9_394 := ba_nat k_414 htl (by omega) hbf
    refine vp_callSi (W.runS (As := [.int (btF f9 tl e9_394)]) (rest := []) ⟨hx, hb, hml, hown, hts⟩ (s_kindOf l (btF f9 tl e9_394)) (va_cwS 1 hts gX6_advance_X6_kindOf rfl rfl rfl (by decide +kernel) ⟨Nat.le_of_ble_eq_true rfl, Nat.le_of_ble_eq_true rfl⟩) ⟨fun a U g mk q => q, fun U hU hW => ⟨rfl, trivial⟩⟩ rfl rfl hl.1 rfl (lv_room (Nat.le_of_ble_eq_true rfl)) dX6_advance_111 ⟨Nat.le_of_ble_eq_true rfl, Nat.le_of_ble_eq_true rfl⟩) (fun r_415 k_416 => ?_)
    subst k_416; have hk_417 := kq_le (c := btF f9 tl e9_394)
    refine lv_aload_n hx hb dX6_advance_114 rfl (lv_at hl 1 rfl) ?_
    refine va_get (D := D) (ci := 6) (v := .int (nI (kdF f9 tl a_2))) (C := RX6) (T := TX6) (N := 5) hx hb hts hin6 hown hK hP ktp e_400 rfl 1 (by decide) (hts (.fieldLink RX6 35 "HoneyHouse$Tape" "kind" "I") (List.mem_of_getElem? (i := 4) rfl)) (fun _ h9 => h9) rfl dX6_advance_115 ?_
    refine lv_icmp_ne (tgt := 134) hx hb dX6_advance_118 (by decide) (fun c_418 => ?_) (fun c_418 => ?_)
    · have d_419 := n_ne (a := kq (btF f9 tl e9_394)) (b := kdF f9 tl a_2) (by omega) (by omega) c_418
      exact W.vret hx hb hr (fun t ht hW => ⟨⟨(), rfl, trivial, ws_397, tys, hsm, htx, by rw [ht]; exact hP, va_K.moved hW.alike hK, hD, (by rw [hsk, show teF f9 tl a_2 = e9_394 from te_kq (by omega) (by omega) (by omega) hr9_396 (Or.inr (fun q9 => d_419 (by rw [btF_t (by omega)]; exact q9))) hng]; exact e_400)⟩, hS.F ht⟩) hS.2.2 dX6_advance_134
    have d_420 := n_eq (a := kq (btF f9 tl e9_394)) (b := kdF f9 tl a_2) (by omega) (by omega) c_418
    refine lv_aload_n hx hb dX6_advance_121 rfl (lv_at hl 1 rfl) ?_
    refine lv_dup hx hb dX6_advance_122 rfl ?_
    refine va_get (D := D) (ci := 6) (v := .int (nI e9_394)) (C := RX6) (T := TX6) (N := 5) hx hb hts hin6 hown hK hP ktp e_400 rfl 3 (by decide) (hts (.fieldLink RX6 19 "HoneyHouse$Tape" "end" "I") (List.mem_of_getElem? (i := 1) rfl)) (fun _ h9 => h9) rfl dX6_advance_123 ?_
    refine lv_iconst (v := 1) hx hb dX6_advance_126 (by decide) ?_
    refine lv_iadd hx hb dX6_advance_127 ?_
    refine tp_i (y := nI (e9_394 + 1)) (nI_add e9_394 1) ?_
    refine va_put (D := D) (ci := 6) (v := .int (nI (e9_394 + 1))) (ty := .int) (C := RX6) (T := TX6) (N := 5) hx hb hts hin6 tyX6 tyX6_ok nmX6 hown hK hP hD hS ktp e_400 rfl 3 (by decide) (hts (.fieldLink RX6 19 "HoneyHouse$Tape" "end" "I") (List.mem_of_getElem? (i := 1) rfl)) (fun _ h9 => h9) rfl (tyX6_ok 3 (by decide)) rfl rfl (Nat.le_of_ble_eq_true rfl) dX6_advance_128 (fun H locs hP hD hS => ?_)
    have hP : va_P D vwCl (ws_397.set ktp (tp, .inr (6, [.int (nI tl), .int (nI (kdF f9 tl a_2)), .int (nI a_2), .int (nI (e9_394 + 1)), .ref bb]))) H := hP
    have hD : va_D A (ws_397.set ktp (tp, .inr (6, [.int (nI tl), .int (nI (kdF f9 tl a_2)), .int (nI a_2), .int (nI (e9_394 + 1)), .ref bb]))) := hD
    have hm_422 : sm ρ [6] ws_397 (ws_397.set ktp (tp, .inr (6, [.int (nI tl), .int (nI (kdF f9 tl a_2)), .int (nI a_2), .int (nI (e9_394 + 1)), .ref bb]))) := sm.flds e_400 (smF.c (smV.rf _) (smF.c (smV.rf _) (smF.c (smV.rf _) (smF.c (smV.i _ _) (smF.c (smV.rf _) (rfl)))))) (List.mem_singleton.mpr rfl) w_ktp
    have e_423 : (ws_397.set ktp (tp, .inr (6, [.int (nI tl), .int (nI (kdF f9 tl a_2)), .int (nI a_2), .int (nI (e9_394 + 1)), .ref bb])))[ktp]? = some (tp, .inr (6, [.int (nI tl), .int (nI (kdF f9 tl a_2)), .int (nI a_2), .int (nI (e9_394 + 1)), .ref bb])) := wset_self e_400
    generalize ws_397.set ktp (tp, .inr (6, [.int (nI tl), .int (nI (kdF f9 tl a_2)), .int (nI a_2), .int (nI (e9_394 + 1)), .ref bb])) = ws_421 at hP hD hm_422 e_423
    have e_424 := hm_422.keep hkb e_408
    have hsm := hsm.tr (hm_422.mono (by decide))
    have hlp_7 := hlp_7.tr (hm_422.mono (by decide))
    have hlp_399 := hlp_399.tr (hm_422.mono (by decide))
    refine lv_goto (tgt := 88) hx hb dX6_advance_131 (by decide) ?_
    exact ih_393 (e9_394 + 1) ws_421 _ _ ls (by show tl - (e9_394 + 1) < tl - e9_394; omega) ⟨hlp_399, e_423, (show a_2 ≤ (e9_394 + 1) ∧ (e9_394 + 1) ≤ tl from by omega), (show ∀ i : Nat, a_2 ≤ i → i < (e9_394 + 1) → kq (f9 i) = kdF f9 tl a_2 from fun i h1 h2 => (Nat.lt_or_ge i e9_394).elim (fun q9 => hr9_396 i h1 q9) (fun q9 => by rw [show i = e9_394 by omega, ← btF_t (f := f9) (n := tl) (b := e9_394) (by omega)]; exact d_420))⟩ hP hD hS (lv_sub hl [0, 1] rfl)
  have d_425 := n_eq (a := kq (btF f9 tl a_2)) (b := 3) (by omega) (by omega) c_224
  refine lv_iinc (v := nI (a_2 + 1)) (lv' := [(1, .int (nI (a_2 + 1))), (0, .ref tp)]) hx hb dX6_advance_25 hl (k := 0) rfl (nI_add a_2 1) (by decide) rfl (fun ls hl => ?_)
  refine lv_goto (tgt := 5) hx hb dX6_advance_28 (by decide) ?_
  exact ih_1 (a_2 + 1) ws_5 _ _ ls (by show tl - (a_2 + 1) < tl - a_2; omega) ⟨hlp_7, e_8, (show te ≤ (a_2 + 1) ∧ (a_2 + 1) ≤ tl from by omega), (show ∀ i : Nat, te ≤ i → i < (a_2 + 1) → blk (f9 i) from fun i h1 h2 => (Nat.lt_or_ge i a_2).elim (fun q9 => hb9_4 i h1 q9) (fun q9 => by rw [show i = a_2 by omega, ← btF_t (f := f9) (n := tl) (b := a_2) (by omega)]; exact kq_i3 d_425))⟩ hP hD hS (lv_sub hl [0, 1] rfl)
set_option maxHeartbeats 4000000 in
set_option maxRecDepth 100000 in
theorem a_rewind (l : Launch) (D : va_G) (ρ : Nat → Nat) (ws : va_W) (tys : List (ClassId × FieldType)) (f9 : Nat → Int32) (tp ktp tl : Nat) (x1 x2 x3 : Int32) (bb kbb : Nat) (cbb : ClassId) (tbb : Nat) (fbb : Nat → Int32) (sz : Nat) (htl : tl ≤ 400) (hbf : ∀ i : Nat, i < tl → fbb i = f9 i) (hng : ∀ i : Nat, i < tl → ¬ f9 i = -1) (etp : ws[ktp]? = some (tp, .inr (6, [.int (nI tl), .int x1, .int x2, .int x3, .ref bb]))) (ebb : ws[kbb]? = some (bb, .inl (cbb, 400, .inl fbb))) (ubb : tys[tbb]? = some (cbb, .int))(hkb : ρ kbb ≠ 0)  (w_ktp : ρ ktp = 0) : Met l yX6_rewind wsX6_rewind ({ frames := 2, cells := 0, slots := 0, locals := 43 }) (va_Pc [.ref tp] (fun U => U.heap.size = sz ∧ va_P D vwCl ws U.heap ∧ va_K D vwCl tys U ∧ va_D (fun _ => True) ws)) (va_Qv (fun _ : Unit => True) (fun (_ : Unit) (t : State) => ∃ (ws' : va_W) (tys' : List (ClassId × FieldType)), sm ρ [6] ws ws' ∧ tyx tys tys' ∧ va_P D vwCl ws' t.heap ∧ va_K D vwCl tys' t ∧ va_D (va_A ws sz) ws' ∧ (ws'[ktp]? = some (tp, .inr (6, [.int (nI tl), .int (nI (kdF f9 tl (skB f9 tl 0))), .int (nI (skB f9 tl 0)), .int (nI (teF f9 tl (skB f9 tl 0))), .ref bb])))) (va_A ws sz)) 0 0 (va_A ws sz) := by
  refine Met.ofW (cc := cX6_rewind) (maxL := 1) (ret := none) (by decide) rfl ?_
  intro p e s m args below meth c s₁ B hml hv
  obtain ⟨rfl, hsz, hP, hK, hD0⟩ := hv
  have hx := B.exec
  have hb := B.bytes
  have hr := B.returns
  have hts := atoms_spec (ws := wsX6_rewind) B.pre
  have hown : s.vm.findClass RX6 = some m.cls := findClass_of_methodNamed B.named
  have hlocks := B.notSynchronized
  subst hsz
  have hD := hD0.self (sz := s.heap.size)
  generalize hAe : va_A ws s.heap.size = A at hD ⊢
  have hA : ∀ q : Nat, s.heap.size ≤ q → A q := fun q h => by rw [← hAe]; exact Or.inr h
  have hS : va_S A s.heap s.heap [] := va_S.rf
  have hsm : sm ρ [6] ws ws := sm.rf ws
  have htx : tyx tys tys := tyx.rf tys
  have hin6 : ∀ w ∈ u_ws RX6 TX6 5, w ∈ wsX6_rewind := (fun _ h9 => List.mem_cons_of_mem _ ((List.mem_append_right _ h9)))
  have hl := lv_entry ([.ref tp]) (n := 1) (Nat.le_of_ble_eq_true rfl)
  rw [lg_entry_eq]
  generalize (lg_sl ([.ref tp]) ++ List.replicate (1 - (lg_sl ([.ref tp])).length) Slot.unset).toArray = ls at hl ⊢
  have hl : lv_has ls 1 [(0, .ref tp)] := hl
  refine lv_aload_n hx hb dX6_rewind_0 rfl (lv_at hl 0 rfl) ?_
  refine lv_iconst (v := 0) hx hb dX6_rewind_1 (by decide) ?_
  refine va_put (D := D) (ci := 6) (v := .int 0) (ty := .int) (C := RX6) (T := TX6) (N := 5) hx hb hts hin6 tyX6 tyX6_ok nmX6 hown hK hP hD hS ktp etp rfl 3 (by decide) (hts (.fieldLink RX6 19 "HoneyHouse$Tape" "end" "I") (List.mem_of_getElem? (i := 1) rfl)) (fun _ h9 => h9) rfl (tyX6_ok 3 (by decide)) rfl rfl (Nat.le_of_ble_eq_true rfl) dX6_rewind_2 (fun H locs hP hD hS => ?_)
  have hP : va_P D vwCl (ws.set ktp (tp, .inr (6, [.int (nI tl), .int x1, .int x2, .int 0, .ref bb]))) H := hP
  have hD : va_D A (ws.set ktp (tp, .inr (6, [.int (nI tl), .int x1, .int x2, .int 0, .ref bb]))) := hD
  have hm_2 : sm ρ [6] ws (ws.set ktp (tp, .inr (6, [.int (nI tl), .int x1, .int x2, .int 0, .ref bb]))) := sm.flds etp (smF.c (smV.rf _) (smF.c (smV.rf _) (smF.c (smV.rf _) (smF.c (smV.i _ _) (smF.c (smV.rf _) (rfl)))))) (List.mem_singleton.mpr rfl) w_ktp
  have e_3 : (ws.set ktp (tp, .inr (6, [.int (nI tl), .int x1, .int x2, .int 0, .ref bb])))[ktp]? = some (tp, .inr (6, [.int (nI tl), .int x1, .int x2, .int 0, .ref bb])) := wset_self etp
  generalize ws.set ktp (tp, .inr (6, [.int (nI tl), .int x1, .int x2, .int 0, .ref bb])) = ws_1 at hP hD hm_2 e_3
  have e_4 := hm_2.keep hkb ebb
  have hsm := hsm.tr (hm_2.mono (by decide))
  refine lv_aload_n hx hb dX6_rewind_5 rfl (lv_at hl 0 rfl) ?_
  have hFc := free_all hD hS hA
  refine va_callv (va_runV (As := []) (rest := []) ⟨hx, hb, hml, hown, hts⟩ (a_advance l D ρ ws_1 tys f9 tp ktp tl 0 x1 x2 bb kbb cbb tbb fbb H.size htl hbf hng (by omega) e_3 e_4 ubb hkb w_ktp) (cwV 0 hts gX6_rewind_X6_advance rfl rfl rfl (by decide +kernel) ⟨Nat.le_of_ble_eq_true rfl, Nat.le_of_ble_eq_true rfl⟩) ⟨fun a U g mk q => by obtain ⟨q0, q1, qP, qK, qD⟩ := q; exact ⟨q0, q1, qP, va_K.moved (u := U) (U := U.calling g mk a) (Vm.Alike.refl U.vm) qK, qD⟩, va_recv hK hP (ci := 6) (q0 := ktp) rfl e_3, fun U hU hW => ⟨rfl, by rw [hU], by rw [hU]; exact hP, va_K.moved hW.alike hK, hD.weaken (fun _ _ _ _ => trivial)⟩⟩ rfl rfl hl.1 rfl (lv_room (Nat.le_of_ble_eq_true rfl)) dX6_rewind_6 ⟨Nat.le_of_ble_eq_true rfl, Nat.le_of_ble_eq_true rfl⟩) hS (fun q _ h => hFc q h) hFc (fun u t H1 locs ht hvm w_6 hB hz1 hk1 hS => ?_)
  obtain ⟨ws_7, ty_8, hm_9, ht_11, hP1, hK1, hD1, hx_10⟩ := hB
  rw [ht] at hP1
  have hK := va_K.moved hvm.symm hK1
  have hD := hD1.weaken (fun _ _ _ h => hFc _ h)
  generalize H1 = H at hP1 hS ⊢
  have hP := hP1
  obtain ⟨g_13, e_12, h_14⟩ := hm_9.obj e_3
  obtain ⟨z_15, z_16, z_17, z_18, rfl⟩ := smX6 h_14
  have e_19 := hm_9.keep hkb e_4
  have u_20 := ht_11 _ _ ubb
  have hsm := hsm.tr (hm_9.mono (by decide))
  have htx := htx.tr ht_11
  have e_21 : ws_7[ktp]? = some (tp, .inr (6, [.int (nI tl), .int (nI (kdF f9 tl (skB f9 tl 0))), .int (nI (skB f9 tl 0)), .int (nI (teF f9 tl (skB f9 tl 0))), .ref bb])) := hx_10
  exact W.vret hx hb hr (fun t ht hW => ⟨⟨(), rfl, trivial, ws_7, ty_8, hsm, htx, by rw [ht]; exact hP, va_K.moved hW.alike hK, hD, e_21⟩, hS.F ht⟩) hS.2.2 dX6_rewind_9
set_option maxHeartbeats 4000000 in
set_option maxRecDepth 100000 in
theorem s_isByte (l : Launch) (D : va_G) (ws : va_W) (tys : List (ClassId × FieldType)) (f9 : Nat → Int32) (tp ktp tl : Nat) (ts : Nat) (bb kbb : Nat) (cbb : ClassId) (tbb : Nat) (fbb : Nat → Int32) (a1 : Int32) (ho1 : ¬ ltr a1) (ho2 : ¬ dgt a1) (htl : tl ≤ 400) (hbf : ∀ i : Nat, i < tl → fbb i = f9 i) (hng : ∀ i : Nat, i < tl → ¬ f9 i = -1) (hpc : pcB f9 tl ts) (etp : ws[ktp]? = some (tp, .inr (6, [.int (nI tl), .int (nI (kdF f9 tl ts)), .int (nI ts), .int (nI (teF f9 tl ts)), .ref bb]))) (ebb : ws[kbb]? = some (bb, .inl (cbb, 400, .inl fbb))) (ubb : tys[tbb]? = some (cbb, .int)) : Met l yX6_isByte wsX6_isByte ({ frames := 1, cells := 0, slots := 0, locals := 21 }) (va_Pc [.ref tp, .int a1] (fun U => va_P D vwCl ws U.heap ∧ va_K D vwCl tys U)) (vp_Si (fun r => (r = 0 ∧ ¬ (ts < tl ∧ f9 ts = a1)) ∨ (r = 1 ∧ (ts < tl ∧ f9 ts = a1)))) 0 0 (fun _ => False) := by
  refine Met.ofW (cc := cX6_isByte) (maxL := 2) (ret := (some .boolean)) (by decide) rfl ?_
  intro p e s m args below meth c s₁ B hml hv
  obtain ⟨rfl, hP, hK⟩ := hv
  have hx := B.exec
  have hb := B.bytes
  have hr := B.returns
  have hts := atoms_spec (ws := wsX6_isByte) B.pre
  have hown : s.vm.findClass RX6 = some m.cls := findClass_of_methodNamed B.named
  have hlocks := B.notSynchronized
  have hin6 : ∀ w ∈ u_ws RX6 TX6 5, w ∈ wsX6_isByte := (fun _ h9 => List.mem_cons_of_mem _ ((List.mem_append_right _ h9)))
  have hl := lv_entry ([.ref tp, .int a1]) (n := 2) (Nat.le_of_ble_eq_true rfl)
  rw [lg_entry_eq]
  generalize (lg_sl ([.ref tp, .int a1]) ++ List.replicate (2 - (lg_sl ([.ref tp, .int a1])).length) Slot.unset).toArray = ls at hl ⊢
  have hl : lv_has ls 2 [(0, .ref tp), (1, .int a1)] := hl
  have hts9 := hpc.1
  refine lv_aload_n hx hb dX6_isByte_0 rfl (lv_at hl 0 rfl) ?_
  refine va_get (D := D) (ci := 6) (v := .int (nI (kdF f9 tl ts))) (C := RX6) (T := TX6) (N := 5) hx hb hts hin6 hown hK hP ktp etp rfl 1 (by decide) (hts (.fieldLink RX6 35 "HoneyHouse$Tape" "kind" "I") (List.mem_of_getElem? (i := 1) rfl)) (fun _ h9 => h9) rfl dX6_isByte_1 ?_
  refine lv_iconst (v := 4) hx hb dX6_isByte_4 (by decide) ?_
  refine lv_icmp_ne (tgt := 24) hx hb dX6_isByte_5 (by decide) (fun c_1 => ?_) (fun c_1 => ?_)
  · refine lv_iconst (v := 0) hx hb dX6_isByte_24 (by decide) ?_
    exact W.zret (v := 0) hx hb hr rfl (fun t ht hW => ⟨0, rfl, Or.inl ⟨rfl, fun q9 => c_1 (by rw [oth_t q9 ho1 ho2]; rfl)⟩, ht⟩) (fun _ h9 => by cases h9) dX6_isByte_25
  refine lv_aload_n hx hb dX6_isByte_8 rfl (lv_at hl 0 rfl) ?_
  refine lv_aload_n hx hb dX6_isByte_9 rfl (lv_at hl 0 rfl) ?_
  refine va_get (D := D) (ci := 6) (v := .int (nI ts)) (C := RX6) (T := TX6) (N := 5) hx hb hts hin6 hown hK hP ktp etp rfl 2 (by decide) (hts (.fieldLink RX6 32 "HoneyHouse$Tape" "start" "I") (List.mem_of_getElem? (i := 2) rfl)) (fun _ h9 => h9) rfl dX6_isByte_10 ?_
  refine vp_callSi (W.runV (As := [.int (nI ts)]) (rest := []) ⟨hx, hb, hml, hown, hts⟩ (s_byteAt l D ws tys tp ktp tl (nI (kdF f9 tl ts)) (nI ts) (nI (teF f9 tl ts)) bb kbb cbb tbb fbb (nI ts) etp ebb ubb) (cwV 1 hts gX6_isByte_X6_byteAt rfl rfl rfl (by decide +kernel) ⟨Nat.le_of_ble_eq_true rfl, Nat.le_of_ble_eq_true rfl⟩) ⟨fun a U g mk q => ⟨q.1, q.2.1, va_K.moved (u := U) (U := U.calling g mk a) (Vm.Alike.refl U.vm) q.2.2⟩, va_recv hK hP (ci := 6) (q0 := ktp) rfl etp, fun U hU hW => ⟨rfl, by rw [hU]; exact hP, va_K.moved hW.alike hK⟩⟩ rfl rfl hl.1 rfl (lv_room (Nat.le_of_ble_eq_true rfl)) dX6_isByte_13 ⟨Nat.le_of_ble_eq_true rfl, Nat.le_of_ble_eq_true rfl⟩) (fun r_2 k_3 => ?_)
  obtain rfl : r_2 = btF f9 tl ts := ba_nat k_3 htl (by omega) hbf
  refine lv_iload_n hx hb dX6_isByte_16 rfl (lv_at hl 1 rfl) ?_
  refine lv_icmp_ne (tgt := 24) hx hb dX6_isByte_17 (by decide) (fun c_4 => ?_) (fun c_4 => ?_)
  · refine lv_iconst (v := 0) hx hb dX6_isByte_24 (by decide) ?_
    exact W.zret (v := 0) hx hb hr rfl (fun t ht hW => ⟨0, rfl, Or.inl ⟨rfl, fun q9 => c_4 (by rw [btF_t q9.1]; exact q9.2)⟩, ht⟩) (fun _ h9 => by cases h9) dX6_isByte_25
  refine lv_iconst (v := 1) hx hb dX6_isByte_20 (by decide) ?_
  refine lv_goto (tgt := 25) hx hb dX6_isByte_21 (by decide) ?_
  exact W.zret (v := 1) hx hb hr rfl (fun t ht hW => ⟨1, rfl, Or.inr ⟨rfl, by have hk9 := kdF_le (f := f9) (n := tl) (b := ts); exact ⟨kdF_lt (f := f9) (by have := n_eq (a := kdF f9 tl ts) (b := 4) (by omega) (by omega) c_1; omega), by rw [← btF_t (f := f9) (n := tl) (b := ts) (kdF_lt (f := f9) (by have := n_eq (a := kdF f9 tl ts) (b := 4) (by omega) (by omega) c_1; omega))]; exact c_4⟩⟩, ht⟩) (fun _ h9 => by cases h9) dX6_isByte_25
set_option maxHeartbeats 4000000 in
set_option maxRecDepth 100000 in
theorem a_isWord (l : Launch) (D : va_G) (ρ : Nat → Nat) (ws : va_W) (tys : List (ClassId × FieldType)) (adK adV : Nat → Nat) (fo : Option Nat) (i9 : Nat) (f9 : Nat → Int32) (tp ktp tl : Nat) (ts : Nat) (bb kbb : Nat) (cbb : ClassId) (tbb : Nat) (fbb : Nat → Int32) (sz : Nat) (hi9 : i9 < 11) (htl : tl ≤ 400) (hbf : ∀ i : Nat, i < tl → fbb i = f9 i) (hng : ∀ i : Nat, i < tl → ¬ f9 i = -1) (hpc : pcB f9 tl ts) (etp : ws[ktp]? = some (tp, .inr (6, [.int (nI tl), .int (nI (kdF f9 tl ts)), .int (nI ts), .int (nI (teF f9 tl ts)), .ref bb]))) (ebb : ws[kbb]? = some (bb, .inl (cbb, 400, .inl fbb))) (ubb : tys[tbb]? = some (cbb, .int))(hkb : ρ kbb ≠ 0)  : Met l yX6_isWord wsX6_isWord ({ frames := 4, cells := 0, slots := 0, locals := 85 }) (va_Pc [.ref tp, .ref (adK i9)] (fun U => U.heap.size = sz ∧ va_P D vwCl ws U.heap ∧ va_K D vwCl tys U ∧ va_D (fun _ => True) ws ∧ SZ adK adV fo (va_A ws sz) U U.heap)) (va_Qi (fun (r : Int32) (_ : Unit) => (r = 0 ∧ ¬ wdE f9 tl ts = cwL.getD i9 0) ∨ (r = 1 ∧ wdE f9 tl ts = cwL.getD i9 0)) (fun (_ : Unit) (t : State) => ∃ (ws' : va_W) (tys' : List (ClassId × FieldType)), sm ρ [] ws ws' ∧ tyx tys tys' ∧ va_P D vwCl ws' t.heap ∧ va_K D vwCl tys' t ∧ va_D (va_A ws sz) ws' ∧ (True)) (va_A ws sz)) 0 0 (va_A ws sz) := by
  refine Met.ofW (cc := cX6_isWord) (maxL := 3) (ret := (some .boolean)) (by decide) rfl ?_
  intro p e s m args below meth c s₁ B hml hv
  obtain ⟨rfl, hsz, hP, hK, hD0, hsz9⟩ := hv
  have hx := B.exec
  have hb := B.bytes
  have hr := B.returns
  have hts := atoms_spec (ws := wsX6_isWord) B.pre
  have hown : s.vm.findClass RX6 = some m.cls := findClass_of_methodNamed B.named
  have hlocks := B.notSynchronized
  subst hsz
  have hD := hD0.self (sz := s.heap.size)
  generalize hAe : va_A ws s.heap.size = A at hD hsz9 ⊢
  have hA : ∀ q : Nat, s.heap.size ≤ q → A q := fun q h => by rw [← hAe]; exact Or.inr h
  have hS : va_S A s.heap s.heap [] := va_S.rf
  have hsm : sm ρ [] ws ws := sm.rf ws
  have htx : tyx tys tys := tyx.rf tys
  have hin6 : ∀ w ∈ u_ws RX6 TX6 5, w ∈ wsX6_isWord := (fun _ h9 => List.mem_cons_of_mem _ ((List.mem_append_right _ h9)))
  have hl := lv_entry ([.ref tp, .ref (adK i9)]) (n := 3) (Nat.le_of_ble_eq_true rfl)
  rw [lg_entry_eq]
  generalize (lg_sl ([.ref tp, .ref (adK i9)]) ++ List.replicate (3 - (lg_sl ([.ref tp, .ref (adK i9)])).length) Slot.unset).toArray = ls at hl ⊢
  have hl : lv_has ls 3 [(0, .ref tp), (1, .ref (adK i9))] := hl
  have hle9 := lenS_le i9 hi9
  have hkl := kdF_le (f := f9) (n := tl) (b := ts)
  have htl9 := teF_le (f := f9) hpc.1
  have hts9 := hpc.1
  have hcw := cwL_b i9 hi9
  refine lv_aload_n hx hb dX6_isWord_0 rfl (lv_at hl 0 rfl) ?_
  refine va_get (D := D) (ci := 6) (v := .int (nI (kdF f9 tl ts))) (C := RX6) (T := TX6) (N := 5) hx hb hts hin6 hown hK hP ktp etp rfl 1 (by decide) (hts (.fieldLink RX6 35 "HoneyHouse$Tape" "kind" "I") (List.mem_of_getElem? (i := 1) rfl)) (fun _ h9 => h9) rfl dX6_isWord_1 ?_
  refine lv_iconst (v := 1) hx hb dX6_isWord_4 (by decide) ?_
  refine lv_icmp_ne (tgt := 24) hx hb dX6_isWord_5 (by decide) (fun c_1 => ?_) (fun c_1 => ?_)
  · have d_2 := n_ne (a := kdF f9 tl ts) (b := 1) (by omega) (by omega) c_1
    refine lv_iconst (v := 0) hx hb dX6_isWord_24 (by decide) ?_
    exact W.zret (v := 0) hx hb hr rfl (fun t ht hW => ⟨⟨0, (), rfl, Or.inl ⟨rfl, fun q9 => d_2 (wdE_sp hcw.2 q9).2⟩, ws, tys, hsm, htx, by rw [ht]; exact hP, va_K.moved hW.alike hK, hD, trivial⟩, hS.F ht⟩) hS.2.2 dX6_isWord_25
  have d_3 := n_eq (a := kdF f9 tl ts) (b := 1) (by omega) (by omega) c_1
  refine lv_aload_n hx hb dX6_isWord_8 rfl (lv_at hl 0 rfl) ?_
  refine va_get (D := D) (ci := 6) (v := .int (nI (teF f9 tl ts))) (C := RX6) (T := TX6) (N := 5) hx hb hts hin6 hown hK hP ktp etp rfl 3 (by decide) (hts (.fieldLink RX6 19 "HoneyHouse$Tape" "end" "I") (List.mem_of_getElem? (i := 2) rfl)) (fun _ h9 => h9) rfl dX6_isWord_9 ?_
  refine lv_aload_n hx hb dX6_isWord_12 rfl (lv_at hl 0 rfl) ?_
  refine va_get (D := D) (ci := 6) (v := .int (nI ts)) (C := RX6) (T := TX6) (N := 5) hx hb hts hin6 hown hK hP ktp etp rfl 2 (by decide) (hts (.fieldLink RX6 32 "HoneyHouse$Tape" "start" "I") (List.mem_of_getElem? (i := 3) rfl)) (fun _ h9 => h9) rfl dX6_isWord_13 ?_
  refine lv_isub hx hb dX6_isWord_16 ?_
  refine tp_i (y := nI ((teF f9 tl ts) - ts)) (pk_sub (a := teF f9 tl ts) (b := ts) (by omega)) ?_
  refine lv_aload_n hx hb dX6_isWord_17 rfl (lv_at hl 1 rfl) ?_
  refine vp_callSi (W.runV (As := []) (rest := [.int (nI ((teF f9 tl ts) - ts))]) ⟨hx, hb, hml, hown, hts⟩ (z_length l adK adV fo i9 hi9) (cwV 0 hts gX6_isWord_J0_length_8abf5 rfl rfl rfl (by decide +kernel) ⟨Nat.le_of_ble_eq_true rfl, Nat.le_of_ble_eq_true rfl⟩) ⟨fun a U g mk q => ⟨q.1, SZ.same rfl rfl q.2⟩, vk_recv hsz9.1 hi9 hS, fun U hU hW => ⟨rfl, hsz9.go hS hW hU (fun _ h9 => h9.elim)⟩⟩ rfl rfl hl.1 rfl (lv_room (Nat.le_of_ble_eq_true rfl)) dX6_isWord_18 ⟨Nat.le_of_ble_eq_true rfl, Nat.le_of_ble_eq_true rfl⟩) (fun r_4 k_5 => ?_)
  subst k_5
  refine lv_icmp_eq (tgt := 26) hx hb dX6_isWord_21 (by decide) (fun c_6 => ?_) (fun c_6 => ?_)
  · have d_7 := n_eq (a := (teF f9 tl ts) - ts) (b := lenS.getD i9 0) (by omega) (by omega) c_6
    refine lv_iconst (v := 0) hx hb dX6_isWord_26 (by decide) ?_
    refine lv_istore_n (lv' := [(2, .int 0), (0, .ref tp), (1, .ref (adK i9))]) hx hb dX6_isWord_27 rfl hl (by decide) rfl (fun ls hl => ?_)
    refine lp_V (nL := 3) (σ := Nat) (lv := fun x9 => [(2, .int (nI x9)), (1, .ref (adK i9)), (0, .ref tp)]) (μ := fun x9 => lenS.getD i9 0 - x9) (J := fun x9 ws9 => sm ρ [] ws ws9 ∧ (x9 ≤ lenS.getD i9 0) ∧ (∀ k : Nat, k < x9 → f9 (ts + k) = (bytS.getD i9 []).getD k 0)) (fun x9 ws_12 H locs ls hj hP hD hS hl ih_8 => ?_) 0 ws _ _ ls ⟨sm.rf _, (show 0 ≤ lenS.getD i9 0 from by omega), (show ∀ k : Nat, k < 0 → f9 (ts + k) = (bytS.getD i9 []).getD k 0 from fun k h1 => absurd h1 (by omega))⟩ hP hD hS (lv_sub hl [0, 2, 1] rfl)
    obtain ⟨i_9, hx9⟩ : ∃ y9, y9 = x9 := ⟨_, rfl⟩
    subst hx9
    replace hj : sm ρ [] ws ws_12 ∧ (i_9 ≤ lenS.getD i9 0) ∧ (∀ k : Nat, k < i_9 → f9 (ts + k) = (bytS.getD i9 []).getD k 0) := hj
    obtain ⟨hm_13, hi_10, hw9_11⟩ := hj
    have e_15 := hm_13.objK etp (by decide)
    have e_16 := hm_13.keep hkb ebb
    have hsm := hsm.tr (hm_13.mono (by decide))
    have hlp_14 := hm_13
    have hl : lv_has ls 3 [(2, .int (nI i_9)), (1, .ref (adK i9)), (0, .ref tp)] := hl
    refine lv_iload_n hx hb dX6_isWord_28 rfl (lv_at hl 0 rfl) ?_
    refine lv_aload_n hx hb dX6_isWord_29 rfl (lv_at hl 1 rfl) ?_
    refine vp_callSi (W.runV (As := []) (rest := [.int (nI i_9)]) ⟨hx, hb, hml, hown, hts⟩ (z_length l adK adV fo i9 hi9) (cwV 0 hts gX6_isWord_J0_length_8abf5 rfl rfl rfl (by decide +kernel) ⟨Nat.le_of_ble_eq_true rfl, Nat.le_of_ble_eq_true rfl⟩) ⟨fun a U g mk q => ⟨q.1, SZ.same rfl rfl q.2⟩, vk_recv hsz9.1 hi9 hS, fun U hU hW => ⟨rfl, hsz9.go hS hW hU (fun _ h9 => h9.elim)⟩⟩ rfl rfl hl.1 rfl (lv_room (Nat.le_of_ble_eq_true rfl)) dX6_isWord_30 ⟨Nat.le_of_ble_eq_true rfl, Nat.le_of_ble_eq_true rfl⟩) (fun r_17 k_18 => ?_)
    subst k_18
    refine lv_icmp_ge (tgt := 62) hx hb dX6_isWord_33 (by decide) (fun c_19 => ?_) (fun c_19 => ?_)
    · have d_20 := n_le (a := lenS.getD i9 0) (b := i_9) (by omega) (by omega) c_19
      refine lv_iconst (v := 1) hx hb dX6_isWord_62 (by decide) ?_
      exact W.zret (v := 1) hx hb hr rfl (fun t ht hW => ⟨⟨1, (), rfl, Or.inr ⟨rfl, wdE_at hpc.1 hcw.2 (by rw [← hcw.1]; exact ⟨by rw [lenS_b i9 hi9, ← teF_1 (f := f9) (n := tl) (b := ts) d_3]; omega, fun k hk => hw9_11 k (by rw [lenS_b i9 hi9] at hk; omega)⟩)⟩, ws_12, tys, hsm, htx, by rw [ht]; exact hP, va_K.moved hW.alike hK, hD, trivial⟩, hS.F ht⟩) hS.2.2 dX6_isWord_63
    have d_21 := n_nle (a := lenS.getD i9 0) (b := i_9) (by omega) (by omega) c_19
    refine lv_aload_n hx hb dX6_isWord_36 rfl (lv_at hl 2 rfl) ?_
    refine lv_aload_n hx hb dX6_isWord_37 rfl (lv_at hl 2 rfl) ?_
    refine va_get (D := D) (ci := 6) (v := .int (nI ts)) (C := RX6) (T := TX6) (N := 5) hx hb hts hin6 hown hK hP ktp e_15 rfl 2 (by decide) (hts (.fieldLink RX6 32 "HoneyHouse$Tape" "start" "I") (List.mem_of_getElem? (i := 3) rfl)) (fun _ h9 => h9) rfl dX6_isWord_38 ?_
    refine lv_iload_n hx hb dX6_isWord_41 rfl (lv_at hl 0 rfl) ?_
    refine lv_iadd hx hb dX6_isWord_42 ?_
    refine tp_i (y := nI (ts + i_9)) (nI_add ts i_9) ?_
    refine vp_callSi (W.runV (As := [.int (nI (ts + i_9))]) (rest := []) ⟨hx, hb, hml, hown, hts⟩ (s_byteAt l D ws_12 tys tp ktp tl (nI (kdF f9 tl ts)) (nI ts) (nI (teF f9 tl ts)) bb kbb cbb tbb fbb (nI (ts + i_9)) e_15 e_16 ubb) (cwV 1 hts gX6_isWord_X6_byteAt rfl rfl rfl (by decide +kernel) ⟨Nat.le_of_ble_eq_true rfl, Nat.le_of_ble_eq_true rfl⟩) ⟨fun a U g mk q => ⟨q.1, q.2.1, va_K.moved (u := U) (U := U.calling g mk a) (Vm.Alike.refl U.vm) q.2.2⟩, va_recv hK hP (ci := 6) (q0 := ktp) rfl e_15, fun U hU hW => ⟨rfl, by rw [hU]; exact hP, va_K.moved hW.alike hK⟩⟩ rfl rfl hl.1 rfl (lv_room (Nat.le_of_ble_eq_true rfl)) dX6_isWord_43 ⟨Nat.le_of_ble_eq_true rfl, Nat.le_of_ble_eq_true rfl⟩) (fun r_22 k_23 => ?_)
    obtain rfl : r_22 = btF f9 tl (ts + i_9) := ba_nat k_23 htl (by omega) hbf
    refine lv_aload_n hx hb dX6_isWord_46 rfl (lv_at hl 1 rfl) ?_
    refine lv_iload_n hx hb dX6_isWord_47 rfl (lv_at hl 0 rfl) ?_
    refine vp_callSi (W.runV (As := [.int (nI i_9)]) (rest := [.int (btF f9 tl (ts + i_9))]) ⟨hx, hb, hml, hown, hts⟩ (z_charAt l adK adV fo i9 i_9 hi9 (by omega)) (cwV 1 hts gX6_isWord_J0_charAt_5068e rfl rfl rfl (by decide +kernel) ⟨Nat.le_of_ble_eq_true rfl, Nat.le_of_ble_eq_true rfl⟩) ⟨fun a U g mk q => ⟨q.1, SZ.same rfl rfl q.2⟩, vk_recv hsz9.1 hi9 hS, fun U hU hW => ⟨rfl, hsz9.go hS hW hU (fun _ h9 => h9.elim)⟩⟩ rfl rfl hl.1 rfl (lv_room (Nat.le_of_ble_eq_true rfl)) dX6_isWord_48 ⟨Nat.le_of_ble_eq_true rfl, Nat.le_of_ble_eq_true rfl⟩) (fun r_24 k_25 => ?_)
    subst k_25
    refine lv_icmp_eq (tgt := 56) hx hb dX6_isWord_51 (by decide) (fun c_26 => ?_) (fun c_26 => ?_)
    · refine lv_iinc (v := nI (i_9 + 1)) (lv' := [(2, .int (nI (i_9 + 1))), (1, .ref (adK i9)), (0, .ref tp)]) hx hb dX6_isWord_56 hl (k := 0) rfl (nI_add i_9 1) (by decide) rfl (fun ls hl => ?_)
      refine lv_goto (tgt := 28) hx hb dX6_isWord_59 (by decide) ?_
      exact ih_8 (i_9 + 1) ws_12 _ _ ls (by show lenS.getD i9 0 - (i_9 + 1) < lenS.getD i9 0 - i_9; omega) ⟨hlp_14, (show (i_9 + 1) ≤ lenS.getD i9 0 from by omega), (show ∀ k : Nat, k < (i_9 + 1) → f9 (ts + k) = (bytS.getD i9 []).getD k 0 from fun k h1 => (Nat.lt_or_ge k i_9).elim (fun q9 => hw9_11 k q9) (fun q9 => by rw [show k = i_9 by omega, ← btF_t (f := f9) (n := tl) (b := ts + i_9) (by omega)]; exact c_26))⟩ hP hD hS (lv_sub hl [0, 1, 2] rfl)
    refine lv_iconst (v := 0) hx hb dX6_isWord_54 (by decide) ?_
    exact W.zret (v := 0) hx hb hr rfl (fun t ht hW => ⟨⟨0, (), rfl, Or.inl ⟨rfl, fun q9 => c_26 (by rw [btF_t (by omega)]; have h9 := (wdE_sp hcw.2 q9).1.2 i_9 (by rw [← hcw.1, lenS_b i9 hi9]; omega); rw [← hcw.1] at h9; exact h9)⟩, ws_12, tys, hsm, htx, by rw [ht]; exact hP, va_K.moved hW.alike hK, hD, trivial⟩, hS.F ht⟩) hS.2.2 dX6_isWord_55
  have d_27 := n_ne (a := (teF f9 tl ts) - ts) (b := lenS.getD i9 0) (by omega) (by omega) c_6
  refine lv_iconst (v := 0) hx hb dX6_isWord_24 (by decide) ?_
  exact W.zret (v := 0) hx hb hr rfl (fun t ht hW => ⟨⟨0, (), rfl, Or.inl ⟨rfl, fun q9 => d_27 (by have h9 := (wdE_sp hcw.2 q9).1.1; rw [← hcw.1, lenS_b i9 hi9, ← teF_1 (f := f9) (n := tl) (b := ts) d_3] at h9; omega)⟩, ws, tys, hsm, htx, by rw [ht]; exact hP, va_K.moved hW.alike hK, hD, trivial⟩, hS.F ht⟩) hS.2.2 dX6_isWord_25
set_option maxHeartbeats 4000000 in
set_option maxRecDepth 100000 in
theorem a_wordKey (l : Launch) (D : va_G) (ρ : Nat → Nat) (ws : va_W) (tys : List (ClassId × FieldType)) (f9 : Nat → Int32) (tp ktp tl : Nat) (ts : Nat) (bb kbb : Nat) (cbb : ClassId) (tbb : Nat) (fbb : Nat → Int32) (sz : Nat) (htl : tl ≤ 400) (hbf : ∀ i : Nat, i < tl → fbb i = f9 i) (hng : ∀ i : Nat, i < tl → ¬ f9 i = -1) (hpc : pcB f9 tl ts) (etp : ws[ktp]? = some (tp, .inr (6, [.int (nI tl), .int (nI (kdF f9 tl ts)), .int (nI ts), .int (nI (teF f9 tl ts)), .ref bb]))) (ebb : ws[kbb]? = some (bb, .inl (cbb, 400, .inl fbb))) (ubb : tys[tbb]? = some (cbb, .int))(hkb : ρ kbb ≠ 0)  : Met l yX6_wordKey wsX6_wordKey ({ frames := 1, cells := 0, slots := 0, locals := 21 }) (va_Pc [.ref tp] (fun U => U.heap.size = sz ∧ va_P D vwCl ws U.heap ∧ va_K D vwCl tys U ∧ va_D (fun _ => True) ws)) (va_Ql (fun (r : Int64) (_ : Unit) => True) (fun (_ : Unit) (t : State) => ∃ (ws' : va_W) (tys' : List (ClassId × FieldType)), sm ρ [] ws ws' ∧ tyx tys tys' ∧ va_P D vwCl ws' t.heap ∧ va_K D vwCl tys' t ∧ va_D (va_A ws sz) ws' ∧ (True)) (va_A ws sz)) 0 0 (va_A ws sz) := by
  refine Met.ofW (cc := cX6_wordKey) (maxL := 4) (ret := (some .long)) (by decide) rfl ?_
  intro p e s m args below meth c s₁ B hml hv
  obtain ⟨rfl, hsz, hP, hK, hD0⟩ := hv
  have hx := B.exec
  have hb := B.bytes
  have hr := B.returns
  have hts := atoms_spec (ws := wsX6_wordKey) B.pre
  have hown : s.vm.findClass RX6 = some m.cls := findClass_of_methodNamed B.named
  have hlocks := B.notSynchronized
  subst hsz
  have hD := hD0.self (sz := s.heap.size)
  generalize hAe : va_A ws s.heap.size = A at hD ⊢
  have hA : ∀ q : Nat, s.heap.size ≤ q → A q := fun q h => by rw [← hAe]; exact Or.inr h
  have hS : va_S A s.heap s.heap [] := va_S.rf
  have hsm : sm ρ [] ws ws := sm.rf ws
  have htx : tyx tys tys := tyx.rf tys
  have hin6 : ∀ w ∈ u_ws RX6 TX6 5, w ∈ wsX6_wordKey := (fun _ h9 => List.mem_cons_of_mem _ ((List.mem_append_right _ h9)))
  have hl := lv_entry ([.ref tp]) (n := 4) (Nat.le_of_ble_eq_true rfl)
  rw [lg_entry_eq]
  generalize (lg_sl ([.ref tp]) ++ List.replicate (4 - (lg_sl ([.ref tp])).length) Slot.unset).toArray = ls at hl ⊢
  have hl : lv_has ls 4 [(0, .ref tp)] := hl
  have htl9 := teF_le (f := f9) hpc.1
  have hts9 := hpc.1
  refine lv_lconst (v := 0) hx hb dX6_wordKey_0 (by decide) ?_
  refine lv_lstore_n (lv' := [(1, .long 0), (0, .ref tp)]) hx hb dX6_wordKey_1 rfl hl (by decide) rfl (fun ls hl => ?_)
  refine lv_aload_n hx hb dX6_wordKey_2 rfl (lv_at hl 1 rfl) ?_
  refine va_get (D := D) (ci := 6) (v := .int (nI ts)) (C := RX6) (T := TX6) (N := 5) hx hb hts hin6 hown hK hP ktp etp rfl 2 (by decide) (hts (.fieldLink RX6 32 "HoneyHouse$Tape" "start" "I") (List.mem_of_getElem? (i := 1) rfl)) (fun _ h9 => h9) rfl dX6_wordKey_3 ?_
  refine lv_istore_n (lv' := [(3, .int (nI ts)), (1, .long 0), (0, .ref tp)]) hx hb dX6_wordKey_6 rfl hl (by decide) rfl (fun ls hl => ?_)
  refine lp_V (nL := 4) (σ := Nat × Int64) (lv := fun x9 => [(3, .int (nI x9.1)), (1, .long x9.2), (0, .ref tp)]) (μ := fun x9 => teF f9 tl ts - x9.1) (J := fun x9 ws9 => sm ρ [] ws ws9 ∧ (x9.1 ≤ teF f9 tl ts)) (fun x9 ws_5 H locs ls hj hP hD hS hl ih_1 => ?_) (ts, 0) ws _ _ ls ⟨sm.rf _, (show ts ≤ teF f9 tl ts from by omega)⟩ hP hD hS (lv_sub hl [0, 1, 2] rfl)
  obtain ⟨k_2, x_3⟩ := x9
  replace hj : sm ρ [] ws ws_5 ∧ (k_2 ≤ teF f9 tl ts) := hj
  obtain ⟨hm_6, hk_4⟩ := hj
  have e_8 := hm_6.objK etp (by decide)
  have e_9 := hm_6.keep hkb ebb
  have hsm := hsm.tr (hm_6.mono (by decide))
  have hlp_7 := hm_6
  have hl : lv_has ls 4 [(3, .int (nI k_2)), (1, .long x_3), (0, .ref tp)] := hl
  refine lv_iload_n hx hb dX6_wordKey_7 rfl (lv_at hl 0 rfl) ?_
  refine lv_aload_n hx hb dX6_wordKey_8 rfl (lv_at hl 2 rfl) ?_
  refine va_get (D := D) (ci := 6) (v := .int (nI (teF f9 tl ts))) (C := RX6) (T := TX6) (N := 5) hx hb hts hin6 hown hK hP ktp e_8 rfl 3 (by decide) (hts (.fieldLink RX6 19 "HoneyHouse$Tape" "end" "I") (List.mem_of_getElem? (i := 2) rfl)) (fun _ h9 => h9) rfl dX6_wordKey_9 ?_
  refine lv_icmp_ge (tgt := 38) hx hb dX6_wordKey_12 (by decide) (fun c_10 => ?_) (fun c_10 => ?_)
  · have d_11 := n_le (a := teF f9 tl ts) (b := k_2) (by omega) (by omega) c_10
    refine lv_lload_n hx hb dX6_wordKey_38 rfl (lv_at hl 1 rfl) ?_
    exact W.lret (v := x_3) hx hb hr (fun t ht hW => ⟨⟨x_3, (), rfl, trivial, ws_5, tys, hsm, htx, by rw [ht]; exact hP, va_K.moved hW.alike hK, hD, trivial⟩, hS.F ht⟩) hS.2.2 dX6_wordKey_39
  have d_12 := n_nle (a := teF f9 tl ts) (b := k_2) (by omega) (by omega) c_10
  refine lv_lload_n hx hb dX6_wordKey_15 rfl (lv_at hl 1 rfl) ?_
  refine lv_iconst (v := 5) hx hb dX6_wordKey_16 (by decide) ?_
  refine lv_lshl hx hb dX6_wordKey_17 rfl ?_
  refine lv_topl (fun z_13 _ => ?_)
  refine lv_aload_n hx hb dX6_wordKey_18 rfl (lv_at hl 2 rfl) ?_
  refine lv_iload_n hx hb dX6_wordKey_19 rfl (lv_at hl 0 rfl) ?_
  refine vp_callSi (W.runV (As := [.int (nI k_2)]) (rest := [.long z_13]) ⟨hx, hb, hml, hown, hts⟩ (s_byteAt l D ws_5 tys tp ktp tl (nI (kdF f9 tl ts)) (nI ts) (nI (teF f9 tl ts)) bb kbb cbb tbb fbb (nI k_2) e_8 e_9 ubb) (cwV 1 hts gX6_wordKey_X6_byteAt rfl rfl rfl (by decide +kernel) ⟨Nat.le_of_ble_eq_true rfl, Nat.le_of_ble_eq_true rfl⟩) ⟨fun a U g mk q => ⟨q.1, q.2.1, va_K.moved (u := U) (U := U.calling g mk a) (Vm.Alike.refl U.vm) q.2.2⟩, va_recv hK hP (ci := 6) (q0 := ktp) rfl e_8, fun U hU hW => ⟨rfl, by rw [hU]; exact hP, va_K.moved hW.alike hK⟩⟩ rfl rfl hl.1 rfl (lv_room (Nat.le_of_ble_eq_true rfl)) dX6_wordKey_20 ⟨Nat.le_of_ble_eq_true rfl, Nat.le_of_ble_eq_true rfl⟩) (fun r_14 k_15 => ?_)
  obtain rfl : r_14 = btF f9 tl k_2 := ba_nat k_15 htl (by omega) hbf
  refine lv_i2l hx hb dX6_wordKey_23 rfl ?_
  refine lv_ladd hx hb dX6_wordKey_24 ?_
  refine lv_topl (fun z_16 _ => ?_)
  refine lv_ldc2 hx hb hown (hts (.constantLong RX6 47 (97)) (List.mem_of_getElem? (i := 3) rfl)) dX6_wordKey_25 ?_
  refine lv_lsub hx hb dX6_wordKey_28 ?_
  refine lv_topl (fun z_17 _ => ?_)
  refine lv_lconst (v := 1) hx hb dX6_wordKey_29 (by decide) ?_
  refine lv_ladd hx hb dX6_wordKey_30 ?_
  refine lv_topl (fun z_18 _ => ?_)
  refine lv_lstore_n (lv' := [(1, .long z_18), (3, .int (nI k_2)), (0, .ref tp)]) hx hb dX6_wordKey_31 rfl hl (by decide) rfl (fun ls hl => ?_)
  refine lv_iinc (v := nI (k_2 + 1)) (lv' := [(3, .int (nI (k_2 + 1))), (1, .long z_18), (0, .ref tp)]) hx hb dX6_wordKey_32 hl (k := 1) rfl (nI_add k_2 1) (by decide) rfl (fun ls hl => ?_)
  refine lv_goto (tgt := 7) hx hb dX6_wordKey_35 (by decide) ?_
  exact ih_1 (k_2 + 1, z_18) ws_5 _ _ ls (by show teF f9 tl ts - (k_2 + 1) < teF f9 tl ts - k_2; omega) ⟨hlp_7, (show (k_2 + 1) ≤ teF f9 tl ts from by omega)⟩ hP hD hS (lv_sub hl [0, 1, 2] rfl)
set_option maxHeartbeats 4000000 in
set_option maxRecDepth 100000 in
theorem a_numberValue (l : Launch) (D : va_G) (ρ : Nat → Nat) (ws : va_W) (tys : List (ClassId × FieldType)) (f9 : Nat → Int32) (tp ktp tl : Nat) (ts : Nat) (bb kbb : Nat) (cbb : ClassId) (tbb : Nat) (fbb : Nat → Int32) (sz : Nat) (htl : tl ≤ 400) (hbf : ∀ i : Nat, i < tl → fbb i = f9 i) (hng : ∀ i : Nat, i < tl → ¬ f9 i = -1) (hpc : pcB f9 tl ts) (etp : ws[ktp]? = some (tp, .inr (6, [.int (nI tl), .int (nI (kdF f9 tl ts)), .int (nI ts), .int (nI (teF f9 tl ts)), .ref bb]))) (ebb : ws[kbb]? = some (bb, .inl (cbb, 400, .inl fbb))) (ubb : tys[tbb]? = some (cbb, .int))(hkb : ρ kbb ≠ 0) (hk2 : kdF f9 tl ts = 2)  : Met l yX6_numberValue wsX6_numberValue ({ frames := 1, cells := 0, slots := 0, locals := 21 }) (va_Pc [.ref tp] (fun U => U.heap.size = sz ∧ va_P D vwCl ws U.heap ∧ va_K D vwCl tys U ∧ va_D (fun _ => True) ws)) (va_Qi (fun (r : Int32) (_ : Unit) => r = nI (vlN f9 ts (teF f9 tl ts - ts))) (fun (_ : Unit) (t : State) => ∃ (ws' : va_W) (tys' : List (ClassId × FieldType)), sm ρ [] ws ws' ∧ tyx tys tys' ∧ va_P D vwCl ws' t.heap ∧ va_K D vwCl tys' t ∧ va_D (va_A ws sz) ws' ∧ (True)) (va_A ws sz)) 0 0 (va_A ws sz) := by
  refine Met.ofW (cc := cX6_numberValue) (maxL := 3) (ret := (some .int)) (by decide) rfl ?_
  intro p e s m args below meth c s₁ B hml hv
  obtain ⟨rfl, hsz, hP, hK, hD0⟩ := hv
  have hx := B.exec
  have hb := B.bytes
  have hr := B.returns
  have hts := atoms_spec (ws := wsX6_numberValue) B.pre
  have hown : s.vm.findClass RX6 = some m.cls := findClass_of_methodNamed B.named
  have hlocks := B.notSynchronized
  subst hsz
  have hD := hD0.self (sz := s.heap.size)
  generalize hAe : va_A ws s.heap.size = A at hD ⊢
  have hA : ∀ q : Nat, s.heap.size ≤ q → A q := fun q h => by rw [← hAe]; exact Or.inr h
  have hS : va_S A s.heap s.heap [] := va_S.rf
  have hsm : sm ρ [] ws ws := sm.rf ws
  have htx : tyx tys tys := tyx.rf tys
  have hin6 : ∀ w ∈ u_ws RX6 TX6 5, w ∈ wsX6_numberValue := (fun _ h9 => List.mem_cons_of_mem _ ((List.mem_append_right _ h9)))
  have hl := lv_entry ([.ref tp]) (n := 3) (Nat.le_of_ble_eq_true rfl)
  rw [lg_entry_eq]
  generalize (lg_sl ([.ref tp]) ++ List.replicate (3 - (lg_sl ([.ref tp])).length) Slot.unset).toArray = ls at hl ⊢
  have hl : lv_has ls 3 [(0, .ref tp)] := hl
  have htl9 := teF_le (f := f9) hpc.1
  have hts9 := hpc.1
  refine lv_iconst (v := 0) hx hb dX6_numberValue_0 (by decide) ?_
  refine lv_istore_n (lv' := [(1, .int 0), (0, .ref tp)]) hx hb dX6_numberValue_1 rfl hl (by decide) rfl (fun ls hl => ?_)
  refine lv_aload_n hx hb dX6_numberValue_2 rfl (lv_at hl 1 rfl) ?_
  refine va_get (D := D) (ci := 6) (v := .int (nI ts)) (C := RX6) (T := TX6) (N := 5) hx hb hts hin6 hown hK hP ktp etp rfl 2 (by decide) (hts (.fieldLink RX6 32 "HoneyHouse$Tape" "start" "I") (List.mem_of_getElem? (i := 1) rfl)) (fun _ h9 => h9) rfl dX6_numberValue_3 ?_
  refine lv_istore_n (lv' := [(2, .int (nI ts)), (1, .int 0), (0, .ref tp)]) hx hb dX6_numberValue_6 rfl hl (by decide) rfl (fun ls hl => ?_)
  refine lp_V (nL := 3) (σ := Nat × Nat) (lv := fun x9 => [(2, .int (nI x9.1)), (1, .int (nI x9.2)), (0, .ref tp)]) (μ := fun x9 => teF f9 tl ts - x9.1) (J := fun x9 ws9 => sm ρ [] ws ws9 ∧ (ts ≤ x9.1 ∧ x9.1 ≤ teF f9 tl ts) ∧ (x9.2 = vlN f9 ts (x9.1 - ts))) (fun x9 ws_6 H locs ls hj hP hD hS hl ih_1 => ?_) (ts, 0) ws _ _ ls ⟨sm.rf _, (show ts ≤ ts ∧ ts ≤ teF f9 tl ts from by omega), (show 0 = vlN f9 ts (ts - ts) from (by rw [Nat.sub_self]; rfl))⟩ hP hD hS (lv_sub hl [0, 1, 2] rfl)
  obtain ⟨k_2, x_3⟩ := x9
  replace hj : sm ρ [] ws ws_6 ∧ (ts ≤ k_2 ∧ k_2 ≤ teF f9 tl ts) ∧ (x_3 = vlN f9 ts (k_2 - ts)) := hj
  obtain ⟨hm_7, hk_4, hv_5⟩ := hj
  have e_9 := hm_7.objK etp (by decide)
  have e_10 := hm_7.keep hkb ebb
  have hsm := hsm.tr (hm_7.mono (by decide))
  have hlp_8 := hm_7
  have hl : lv_has ls 3 [(2, .int (nI k_2)), (1, .int (nI x_3)), (0, .ref tp)] := hl
  refine lv_iload_n hx hb dX6_numberValue_7 rfl (lv_at hl 0 rfl) ?_
  refine lv_aload_n hx hb dX6_numberValue_8 rfl (lv_at hl 2 rfl) ?_
  refine va_get (D := D) (ci := 6) (v := .int (nI (teF f9 tl ts))) (C := RX6) (T := TX6) (N := 5) hx hb hts hin6 hown hK hP ktp e_9 rfl 3 (by decide) (hts (.fieldLink RX6 19 "HoneyHouse$Tape" "end" "I") (List.mem_of_getElem? (i := 2) rfl)) (fun _ h9 => h9) rfl dX6_numberValue_9 ?_
  refine lv_icmp_ge (tgt := 35) hx hb dX6_numberValue_12 (by decide) (fun c_11 => ?_) (fun c_11 => ?_)
  · have d_12 := n_le (a := teF f9 tl ts) (b := k_2) (by omega) (by omega) c_11
    refine lv_iload_n hx hb dX6_numberValue_35 rfl (lv_at hl 1 rfl) ?_
    exact W.iret (v := nI x_3) hx hb hr (fun t ht hW => ⟨⟨nI x_3, (), rfl, (by rw [hv_5, show k_2 = teF f9 tl ts by omega]), ws_6, tys, hsm, htx, by rw [ht]; exact hP, va_K.moved hW.alike hK, hD, trivial⟩, hS.F ht⟩) hS.2.2 dX6_numberValue_36
  have d_13 := n_nle (a := teF f9 tl ts) (b := k_2) (by omega) (by omega) c_11
  refine lv_iload_n hx hb dX6_numberValue_15 rfl (lv_at hl 1 rfl) ?_
  refine lv_bipush (v := 10) hx hb dX6_numberValue_16 (by decide) ?_
  refine lv_imul hx hb dX6_numberValue_18 ?_
  refine tp_i (y := nI (x_3 * 10)) (pk_mul x_3 10) ?_
  refine lv_aload_n hx hb dX6_numberValue_19 rfl (lv_at hl 2 rfl) ?_
  refine lv_iload_n hx hb dX6_numberValue_20 rfl (lv_at hl 0 rfl) ?_
  refine vp_callSi (W.runV (As := [.int (nI k_2)]) (rest := [.int (nI (x_3 * 10))]) ⟨hx, hb, hml, hown, hts⟩ (s_byteAt l D ws_6 tys tp ktp tl (nI (kdF f9 tl ts)) (nI ts) (nI (teF f9 tl ts)) bb kbb cbb tbb fbb (nI k_2) e_9 e_10 ubb) (cwV 1 hts gX6_numberValue_X6_byteAt rfl rfl rfl (by decide +kernel) ⟨Nat.le_of_ble_eq_true rfl, Nat.le_of_ble_eq_true rfl⟩) ⟨fun a U g mk q => ⟨q.1, q.2.1, va_K.moved (u := U) (U := U.calling g mk a) (Vm.Alike.refl U.vm) q.2.2⟩, va_recv hK hP (ci := 6) (q0 := ktp) rfl e_9, fun U hU hW => ⟨rfl, by rw [hU]; exact hP, va_K.moved hW.alike hK⟩⟩ rfl rfl hl.1 rfl (lv_room (Nat.le_of_ble_eq_true rfl)) dX6_numberValue_21 ⟨Nat.le_of_ble_eq_true rfl, Nat.le_of_ble_eq_true rfl⟩) (fun r_14 k_15 => ?_)
  obtain ⟨d_16, hd_17, e_18⟩ := dgt_nat (te_dg hk2 k_2 (by omega) (by omega)); obtain rfl : r_14 = nI (48 + d_16) := by rw [ba_nat k_15 htl (by omega) hbf, btF_t (by omega)]; exact e_18
  refine lv_iadd hx hb dX6_numberValue_24 ?_
  refine tp_i (y := nI ((x_3 * 10) + (48 + d_16))) (nI_add (x_3 * 10) (48 + d_16)) ?_
  refine lv_bipush (v := 48) hx hb dX6_numberValue_25 (by decide) ?_
  refine lv_isub hx hb dX6_numberValue_27 ?_
  refine tp_i (y := nI (((x_3 * 10) + (48 + d_16)) - 48)) (pk_sub (a := (x_3 * 10) + (48 + d_16)) (b := 48) (by omega)) ?_
  refine lv_istore_n (lv' := [(1, .int (nI (((x_3 * 10) + (48 + d_16)) - 48))), (2, .int (nI k_2)), (0, .ref tp)]) hx hb dX6_numberValue_28 rfl hl (by decide) rfl (fun ls hl => ?_)
  refine lv_iinc (v := nI (k_2 + 1)) (lv' := [(2, .int (nI (k_2 + 1))), (1, .int (nI (((x_3 * 10) + (48 + d_16)) - 48))), (0, .ref tp)]) hx hb dX6_numberValue_29 hl (k := 1) rfl (nI_add k_2 1) (by decide) rfl (fun ls hl => ?_)
  refine lv_goto (tgt := 7) hx hb dX6_numberValue_32 (by decide) ?_
  exact ih_1 (k_2 + 1, ((x_3 * 10) + (48 + d_16)) - 48) ws_6 _ _ ls (by show teF f9 tl ts - (k_2 + 1) < teF f9 tl ts - k_2; omega) ⟨hlp_8, (show ts ≤ (k_2 + 1) ∧ (k_2 + 1) ≤ teF f9 tl ts from by omega), (show (((x_3 * 10) + (48 + d_16)) - 48) = vlN f9 ts ((k_2 + 1) - ts) from (by rw [show k_2 + 1 - ts = (k_2 - ts) + 1 by omega, vlN, ← hv_5, show ts + (k_2 - ts) = k_2 by omega, e_18, nI_clamp (n := 48 + d_16) (by omega)]; omega))⟩ hP hD hS (lv_sub hl [0, 1, 2] rfl)
