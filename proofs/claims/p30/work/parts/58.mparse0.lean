theorem dX9_isLetter_0 : decode cX9_isLetter 0 = .ok (.iload_n 0, 1) := by decide +kernel
theorem dX9_isLetter_1 : decode cX9_isLetter 1 = .ok (.bipush 97, 2) := by decide +kernel
theorem dX9_isLetter_3 : decode cX9_isLetter 3 = .ok (.if_icmp .lt 13, 3) := by decide +kernel
theorem dX9_isLetter_6 : decode cX9_isLetter 6 = .ok (.iload_n 0, 1) := by decide +kernel
theorem dX9_isLetter_7 : decode cX9_isLetter 7 = .ok (.bipush 122, 2) := by decide +kernel
theorem dX9_isLetter_9 : decode cX9_isLetter 9 = .ok (.if_icmp .gt 7, 3) := by decide +kernel
theorem dX9_isLetter_12 : decode cX9_isLetter 12 = .ok (.iconst 1, 1) := by decide +kernel
theorem dX9_isLetter_13 : decode cX9_isLetter 13 = .ok (.goto 4, 3) := by decide +kernel
theorem dX9_isLetter_16 : decode cX9_isLetter 16 = .ok (.iconst 0, 1) := by decide +kernel
theorem dX9_isLetter_17 : decode cX9_isLetter 17 = .ok (.ireturn, 1) := by decide +kernel
theorem dX9_isDigit_0 : decode cX9_isDigit 0 = .ok (.iload_n 0, 1) := by decide +kernel
theorem dX9_isDigit_1 : decode cX9_isDigit 1 = .ok (.bipush 48, 2) := by decide +kernel
theorem dX9_isDigit_3 : decode cX9_isDigit 3 = .ok (.if_icmp .lt 13, 3) := by decide +kernel
theorem dX9_isDigit_6 : decode cX9_isDigit 6 = .ok (.iload_n 0, 1) := by decide +kernel
theorem dX9_isDigit_7 : decode cX9_isDigit 7 = .ok (.bipush 57, 2) := by decide +kernel
theorem dX9_isDigit_9 : decode cX9_isDigit 9 = .ok (.if_icmp .gt 7, 3) := by decide +kernel
theorem dX9_isDigit_12 : decode cX9_isDigit 12 = .ok (.iconst 1, 1) := by decide +kernel
theorem dX9_isDigit_13 : decode cX9_isDigit 13 = .ok (.goto 4, 3) := by decide +kernel
theorem dX9_isDigit_16 : decode cX9_isDigit 16 = .ok (.iconst 0, 1) := by decide +kernel
theorem dX9_isDigit_17 : decode cX9_isDigit 17 = .ok (.ireturn, 1) := by decide +kernel
theorem dX9_blame_0 : decode cX9_blame 0 = .ok (.aload_n 0, 1) := by decide +kernel
theorem dX9_blame_1 : decode cX9_blame 1 = .ok (.getfield 74, 3) := by decide +kernel
theorem dX9_blame_4 : decode cX9_blame 4 = .ok (.ifCond .le 4, 3) := by decide +kernel
theorem dX9_blame_7 : decode cX9_blame 7 = .ok (.return_, 1) := by decide +kernel
theorem dX9_blame_8 : decode cX9_blame 8 = .ok (.aload_n 0, 1) := by decide +kernel
theorem dX9_blame_9 : decode cX9_blame 9 = .ok (.iload_n 1, 1) := by decide +kernel
theorem dX9_blame_10 : decode cX9_blame 10 = .ok (.putfield 74, 3) := by decide +kernel
theorem dX9_blame_13 : decode cX9_blame 13 = .ok (.aload_n 0, 1) := by decide +kernel
theorem dX9_blame_14 : decode cX9_blame 14 = .ok (.iload_n 2, 1) := by decide +kernel
theorem dX9_blame_15 : decode cX9_blame 15 = .ok (.putfield 77, 3) := by decide +kernel
theorem dX9_blame_18 : decode cX9_blame 18 = .ok (.return_, 1) := by decide +kernel
theorem dX9_here_0 : decode cX9_here 0 = .ok (.aload_n 0, 1) := by decide +kernel
theorem dX9_here_1 : decode cX9_here 1 = .ok (.getfield 87, 3) := by decide +kernel
theorem dX9_here_4 : decode cX9_here 4 = .ok (.aload_n 0, 1) := by decide +kernel
theorem dX9_here_5 : decode cX9_here 5 = .ok (.getfield 90, 3) := by decide +kernel
theorem dX9_here_8 : decode cX9_here 8 = .ok (.if_icmp .ge 44, 3) := by decide +kernel
theorem dX9_here_11 : decode cX9_here 11 = .ok (.aload_n 0, 1) := by decide +kernel
theorem dX9_here_12 : decode cX9_here 12 = .ok (.getfield 7, 3) := by decide +kernel
theorem dX9_here_15 : decode cX9_here 15 = .ok (.aload_n 0, 1) := by decide +kernel
theorem dX9_here_16 : decode cX9_here 16 = .ok (.getfield 87, 3) := by decide +kernel
theorem dX9_here_19 : decode cX9_here 19 = .ok (.iaload, 1) := by decide +kernel
theorem dX9_here_20 : decode cX9_here 20 = .ok (.bipush 32, 2) := by decide +kernel
theorem dX9_here_22 : decode cX9_here 22 = .ok (.if_icmp .eq 17, 3) := by decide +kernel
theorem dX9_here_25 : decode cX9_here 25 = .ok (.aload_n 0, 1) := by decide +kernel
theorem dX9_here_26 : decode cX9_here 26 = .ok (.getfield 7, 3) := by decide +kernel
theorem dX9_here_29 : decode cX9_here 29 = .ok (.aload_n 0, 1) := by decide +kernel
theorem dX9_here_30 : decode cX9_here 30 = .ok (.getfield 87, 3) := by decide +kernel
theorem dX9_here_33 : decode cX9_here 33 = .ok (.iaload, 1) := by decide +kernel
theorem dX9_here_34 : decode cX9_here 34 = .ok (.bipush 10, 2) := by decide +kernel
theorem dX9_here_36 : decode cX9_here 36 = .ok (.if_icmp .ne 16, 3) := by decide +kernel
theorem dX9_here_39 : decode cX9_here 39 = .ok (.aload_n 0, 1) := by decide +kernel
theorem dX9_here_40 : decode cX9_here 40 = .ok (.dup, 1) := by decide +kernel
theorem dX9_here_41 : decode cX9_here 41 = .ok (.getfield 87, 3) := by decide +kernel
theorem dX9_here_44 : decode cX9_here 44 = .ok (.iconst 1, 1) := by decide +kernel
theorem dX9_here_45 : decode cX9_here 45 = .ok (.iadd, 1) := by decide +kernel
theorem dX9_here_46 : decode cX9_here 46 = .ok (.putfield 87, 3) := by decide +kernel
theorem dX9_here_49 : decode cX9_here 49 = .ok (.goto (-49), 3) := by decide +kernel
theorem dX9_here_52 : decode cX9_here 52 = .ok (.aload_n 0, 1) := by decide +kernel
theorem dX9_here_53 : decode cX9_here 53 = .ok (.getfield 87, 3) := by decide +kernel
theorem dX9_here_56 : decode cX9_here 56 = .ok (.aload_n 0, 1) := by decide +kernel
theorem dX9_here_57 : decode cX9_here 57 = .ok (.getfield 90, 3) := by decide +kernel
theorem dX9_here_60 : decode cX9_here 60 = .ok (.if_icmp .ge 15, 3) := by decide +kernel
theorem dX9_here_63 : decode cX9_here 63 = .ok (.aload_n 0, 1) := by decide +kernel
theorem dX9_here_64 : decode cX9_here 64 = .ok (.getfield 7, 3) := by decide +kernel
theorem dX9_here_67 : decode cX9_here 67 = .ok (.aload_n 0, 1) := by decide +kernel
theorem dX9_here_68 : decode cX9_here 68 = .ok (.getfield 87, 3) := by decide +kernel
theorem dX9_here_71 : decode cX9_here 71 = .ok (.iaload, 1) := by decide +kernel
theorem dX9_here_72 : decode cX9_here 72 = .ok (.goto 4, 3) := by decide +kernel
theorem dX9_here_75 : decode cX9_here 75 = .ok (.iconst (-1), 1) := by decide +kernel
theorem dX9_here_76 : decode cX9_here 76 = .ok (.ireturn, 1) := by decide +kernel
theorem dX9_wordEnd_0 : decode cX9_wordEnd 0 = .ok (.aload_n 0, 1) := by decide +kernel
theorem dX9_wordEnd_1 : decode cX9_wordEnd 1 = .ok (.getfield 87, 3) := by decide +kernel
theorem dX9_wordEnd_4 : decode cX9_wordEnd 4 = .ok (.istore_n 1, 1) := by decide +kernel
theorem dX9_wordEnd_5 : decode cX9_wordEnd 5 = .ok (.iload_n 1, 1) := by decide +kernel
theorem dX9_wordEnd_6 : decode cX9_wordEnd 6 = .ok (.aload_n 0, 1) := by decide +kernel
theorem dX9_wordEnd_7 : decode cX9_wordEnd 7 = .ok (.getfield 90, 3) := by decide +kernel
theorem dX9_wordEnd_10 : decode cX9_wordEnd 10 = .ok (.if_icmp .ge 21, 3) := by decide +kernel
theorem dX9_wordEnd_13 : decode cX9_wordEnd 13 = .ok (.aload_n 0, 1) := by decide +kernel
theorem dX9_wordEnd_14 : decode cX9_wordEnd 14 = .ok (.getfield 7, 3) := by decide +kernel
theorem dX9_wordEnd_17 : decode cX9_wordEnd 17 = .ok (.iload_n 1, 1) := by decide +kernel
theorem dX9_wordEnd_18 : decode cX9_wordEnd 18 = .ok (.iaload, 1) := by decide +kernel
theorem dX9_wordEnd_19 : decode cX9_wordEnd 19 = .ok (.invokestatic 226, 3) := by decide +kernel
theorem dX9_wordEnd_22 : decode cX9_wordEnd 22 = .ok (.ifCond .eq 9, 3) := by decide +kernel
theorem dX9_wordEnd_25 : decode cX9_wordEnd 25 = .ok (.iinc 1 1, 3) := by decide +kernel
theorem dX9_wordEnd_28 : decode cX9_wordEnd 28 = .ok (.goto (-23), 3) := by decide +kernel
theorem dX9_wordEnd_31 : decode cX9_wordEnd 31 = .ok (.iload_n 1, 1) := by decide +kernel
theorem dX9_wordEnd_32 : decode cX9_wordEnd 32 = .ok (.ireturn, 1) := by decide +kernel
theorem dX9_spells_0 : decode cX9_spells 0 = .ok (.iload_n 1, 1) := by decide +kernel
theorem dX9_spells_1 : decode cX9_spells 1 = .ok (.aload_n 0, 1) := by decide +kernel
theorem dX9_spells_2 : decode cX9_spells 2 = .ok (.getfield 87, 3) := by decide +kernel
theorem dX9_spells_5 : decode cX9_spells 5 = .ok (.isub, 1) := by decide +kernel
theorem dX9_spells_6 : decode cX9_spells 6 = .ok (.iload 4, 2) := by decide +kernel
theorem dX9_spells_8 : decode cX9_spells 8 = .ok (.if_icmp .eq 5, 3) := by decide +kernel
theorem dX9_spells_11 : decode cX9_spells 11 = .ok (.iconst 0, 1) := by decide +kernel
theorem dX9_spells_12 : decode cX9_spells 12 = .ok (.ireturn, 1) := by decide +kernel
theorem dX9_spells_13 : decode cX9_spells 13 = .ok (.iconst 1, 1) := by decide +kernel
theorem dX9_spells_14 : decode cX9_spells 14 = .ok (.istore 5, 2) := by decide +kernel
theorem dX9_spells_16 : decode cX9_spells 16 = .ok (.iconst 0, 1) := by decide +kernel
theorem dX9_spells_17 : decode cX9_spells 17 = .ok (.istore 6, 2) := by decide +kernel
theorem dX9_spells_19 : decode cX9_spells 19 = .ok (.iload 6, 2) := by decide +kernel
theorem dX9_spells_21 : decode cX9_spells 21 = .ok (.iload 4, 2) := by decide +kernel
theorem dX9_spells_23 : decode cX9_spells 23 = .ok (.if_icmp .ge 53, 3) := by decide +kernel
theorem dX9_spells_26 : decode cX9_spells 26 = .ok (.iload 5, 2) := by decide +kernel
theorem dX9_spells_28 : decode cX9_spells 28 = .ok (.ifCond .eq 39, 3) := by decide +kernel
theorem dX9_spells_31 : decode cX9_spells 31 = .ok (.aload_n 0, 1) := by decide +kernel
theorem dX9_spells_32 : decode cX9_spells 32 = .ok (.getfield 7, 3) := by decide +kernel
theorem dX9_spells_35 : decode cX9_spells 35 = .ok (.aload_n 0, 1) := by decide +kernel
theorem dX9_spells_36 : decode cX9_spells 36 = .ok (.getfield 87, 3) := by decide +kernel
theorem dX9_spells_39 : decode cX9_spells 39 = .ok (.iload 6, 2) := by decide +kernel
theorem dX9_spells_41 : decode cX9_spells 41 = .ok (.iadd, 1) := by decide +kernel
theorem dX9_spells_42 : decode cX9_spells 42 = .ok (.iaload, 1) := by decide +kernel
theorem dX9_spells_43 : decode cX9_spells 43 = .ok (.lload_n 2, 1) := by decide +kernel
theorem dX9_spells_44 : decode cX9_spells 44 = .ok (.bipush 8, 2) := by decide +kernel
theorem dX9_spells_46 : decode cX9_spells 46 = .ok (.iload 4, 2) := by decide +kernel
theorem dX9_spells_48 : decode cX9_spells 48 = .ok (.iconst 1, 1) := by decide +kernel
theorem dX9_spells_49 : decode cX9_spells 49 = .ok (.isub, 1) := by decide +kernel
theorem dX9_spells_50 : decode cX9_spells 50 = .ok (.iload 6, 2) := by decide +kernel
theorem dX9_spells_52 : decode cX9_spells 52 = .ok (.isub, 1) := by decide +kernel
theorem dX9_spells_53 : decode cX9_spells 53 = .ok (.imul, 1) := by decide +kernel
theorem dX9_spells_54 : decode cX9_spells 54 = .ok (.lshr, 1) := by decide +kernel
theorem dX9_spells_55 : decode cX9_spells 55 = .ok (.ldc2_w 198, 3) := by decide +kernel
theorem dX9_spells_58 : decode cX9_spells 58 = .ok (.land, 1) := by decide +kernel
theorem dX9_spells_59 : decode cX9_spells 59 = .ok (.l2i, 1) := by decide +kernel
theorem dX9_spells_60 : decode cX9_spells 60 = .ok (.if_icmp .ne 7, 3) := by decide +kernel
theorem dX9_spells_63 : decode cX9_spells 63 = .ok (.iconst 1, 1) := by decide +kernel
theorem dX9_spells_64 : decode cX9_spells 64 = .ok (.goto 4, 3) := by decide +kernel
theorem dX9_spells_67 : decode cX9_spells 67 = .ok (.iconst 0, 1) := by decide +kernel
theorem dX9_spells_68 : decode cX9_spells 68 = .ok (.istore 5, 2) := by decide +kernel
theorem dX9_spells_70 : decode cX9_spells 70 = .ok (.iinc 6 1, 3) := by decide +kernel
theorem dX9_spells_73 : decode cX9_spells 73 = .ok (.goto (-54), 3) := by decide +kernel
theorem dX9_spells_76 : decode cX9_spells 76 = .ok (.iload 5, 2) := by decide +kernel
theorem dX9_spells_78 : decode cX9_spells 78 = .ok (.ireturn, 1) := by decide +kernel
theorem dX9_word_0 : decode cX9_word 0 = .ok (.aload_n 0, 1) := by decide +kernel
theorem dX9_word_1 : decode cX9_word 1 = .ok (.iload_n 1, 1) := by decide +kernel
theorem dX9_word_2 : decode cX9_word 2 = .ok (.ldc2_w 200, 3) := by decide +kernel
theorem dX9_word_5 : decode cX9_word 5 = .ok (.iconst 4, 1) := by decide +kernel
theorem dX9_word_6 : decode cX9_word 6 = .ok (.invokevirtual 202, 3) := by decide +kernel
theorem dX9_word_9 : decode cX9_word 9 = .ok (.ifCond .eq 5, 3) := by decide +kernel
theorem dX9_word_12 : decode cX9_word 12 = .ok (.iconst 0, 1) := by decide +kernel
theorem dX9_word_13 : decode cX9_word 13 = .ok (.ireturn, 1) := by decide +kernel
theorem dX9_word_14 : decode cX9_word 14 = .ok (.aload_n 0, 1) := by decide +kernel
theorem dX9_word_15 : decode cX9_word 15 = .ok (.iload_n 1, 1) := by decide +kernel
theorem dX9_word_16 : decode cX9_word 16 = .ok (.ldc2_w 206, 3) := by decide +kernel
theorem dX9_word_19 : decode cX9_word 19 = .ok (.iconst 2, 1) := by decide +kernel
theorem dX9_word_20 : decode cX9_word 20 = .ok (.invokevirtual 202, 3) := by decide +kernel
theorem dX9_word_23 : decode cX9_word 23 = .ok (.ifCond .eq 5, 3) := by decide +kernel
theorem dX9_word_26 : decode cX9_word 26 = .ok (.iconst 1, 1) := by decide +kernel
theorem dX9_word_27 : decode cX9_word 27 = .ok (.ireturn, 1) := by decide +kernel
theorem dX9_word_28 : decode cX9_word 28 = .ok (.aload_n 0, 1) := by decide +kernel
theorem dX9_word_29 : decode cX9_word 29 = .ok (.iload_n 1, 1) := by decide +kernel
theorem dX9_word_30 : decode cX9_word 30 = .ok (.ldc2_w 208, 3) := by decide +kernel
theorem dX9_word_33 : decode cX9_word 33 = .ok (.iconst 3, 1) := by decide +kernel
theorem dX9_word_34 : decode cX9_word 34 = .ok (.invokevirtual 202, 3) := by decide +kernel
theorem dX9_word_37 : decode cX9_word 37 = .ok (.ifCond .eq 5, 3) := by decide +kernel
theorem dX9_word_40 : decode cX9_word 40 = .ok (.iconst 2, 1) := by decide +kernel
theorem dX9_word_41 : decode cX9_word 41 = .ok (.ireturn, 1) := by decide +kernel
theorem dX9_word_42 : decode cX9_word 42 = .ok (.aload_n 0, 1) := by decide +kernel
theorem dX9_word_43 : decode cX9_word 43 = .ok (.iload_n 1, 1) := by decide +kernel
theorem dX9_word_44 : decode cX9_word 44 = .ok (.ldc2_w 210, 3) := by decide +kernel
theorem dX9_word_47 : decode cX9_word 47 = .ok (.iconst 3, 1) := by decide +kernel
theorem dX9_word_48 : decode cX9_word 48 = .ok (.invokevirtual 202, 3) := by decide +kernel
theorem dX9_word_51 : decode cX9_word 51 = .ok (.ifCond .eq 5, 3) := by decide +kernel
theorem dX9_word_54 : decode cX9_word 54 = .ok (.iconst 3, 1) := by decide +kernel
theorem dX9_word_55 : decode cX9_word 55 = .ok (.ireturn, 1) := by decide +kernel
theorem dX9_word_56 : decode cX9_word 56 = .ok (.aload_n 0, 1) := by decide +kernel
theorem dX9_word_57 : decode cX9_word 57 = .ok (.iload_n 1, 1) := by decide +kernel
theorem dX9_word_58 : decode cX9_word 58 = .ok (.ldc2_w 212, 3) := by decide +kernel
theorem dX9_word_61 : decode cX9_word 61 = .ok (.iconst 5, 1) := by decide +kernel
theorem dX9_word_62 : decode cX9_word 62 = .ok (.invokevirtual 202, 3) := by decide +kernel
theorem dX9_word_65 : decode cX9_word 65 = .ok (.ifCond .eq 5, 3) := by decide +kernel
theorem dX9_word_68 : decode cX9_word 68 = .ok (.iconst 4, 1) := by decide +kernel
theorem dX9_word_69 : decode cX9_word 69 = .ok (.ireturn, 1) := by decide +kernel
theorem dX9_word_70 : decode cX9_word 70 = .ok (.aload_n 0, 1) := by decide +kernel
theorem dX9_word_71 : decode cX9_word 71 = .ok (.iload_n 1, 1) := by decide +kernel
theorem dX9_word_72 : decode cX9_word 72 = .ok (.ldc2_w 214, 3) := by decide +kernel
theorem dX9_word_75 : decode cX9_word 75 = .ok (.bipush 6, 2) := by decide +kernel
theorem dX9_word_77 : decode cX9_word 77 = .ok (.invokevirtual 202, 3) := by decide +kernel
theorem dX9_word_80 : decode cX9_word 80 = .ok (.ifCond .eq 5, 3) := by decide +kernel
theorem dX9_word_83 : decode cX9_word 83 = .ok (.iconst 5, 1) := by decide +kernel
theorem dX9_word_84 : decode cX9_word 84 = .ok (.ireturn, 1) := by decide +kernel
theorem dX9_word_85 : decode cX9_word 85 = .ok (.aload_n 0, 1) := by decide +kernel
theorem dX9_word_86 : decode cX9_word 86 = .ok (.iload_n 1, 1) := by decide +kernel
theorem dX9_word_87 : decode cX9_word 87 = .ok (.ldc2_w 216, 3) := by decide +kernel
theorem dX9_word_90 : decode cX9_word 90 = .ok (.iconst 4, 1) := by decide +kernel
theorem dX9_word_91 : decode cX9_word 91 = .ok (.invokevirtual 202, 3) := by decide +kernel
theorem dX9_word_94 : decode cX9_word 94 = .ok (.ifCond .eq 6, 3) := by decide +kernel
theorem dX9_word_97 : decode cX9_word 97 = .ok (.bipush 6, 2) := by decide +kernel
theorem dX9_word_99 : decode cX9_word 99 = .ok (.ireturn, 1) := by decide +kernel
theorem dX9_word_100 : decode cX9_word 100 = .ok (.aload_n 0, 1) := by decide +kernel
theorem dX9_word_101 : decode cX9_word 101 = .ok (.iload_n 1, 1) := by decide +kernel
theorem dX9_word_102 : decode cX9_word 102 = .ok (.ldc2_w 218, 3) := by decide +kernel
theorem dX9_word_105 : decode cX9_word 105 = .ok (.bipush 6, 2) := by decide +kernel
theorem dX9_word_107 : decode cX9_word 107 = .ok (.invokevirtual 202, 3) := by decide +kernel
theorem dX9_word_110 : decode cX9_word 110 = .ok (.ifCond .eq 6, 3) := by decide +kernel
theorem dX9_word_113 : decode cX9_word 113 = .ok (.bipush 7, 2) := by decide +kernel
theorem dX9_word_115 : decode cX9_word 115 = .ok (.ireturn, 1) := by decide +kernel
theorem dX9_word_116 : decode cX9_word 116 = .ok (.aload_n 0, 1) := by decide +kernel
theorem dX9_word_117 : decode cX9_word 117 = .ok (.iload_n 1, 1) := by decide +kernel
theorem dX9_word_118 : decode cX9_word 118 = .ok (.ldc2_w 220, 3) := by decide +kernel
theorem dX9_word_121 : decode cX9_word 121 = .ok (.iconst 4, 1) := by decide +kernel
theorem dX9_word_122 : decode cX9_word 122 = .ok (.invokevirtual 202, 3) := by decide +kernel
theorem dX9_word_125 : decode cX9_word 125 = .ok (.ifCond .eq 6, 3) := by decide +kernel
theorem dX9_word_128 : decode cX9_word 128 = .ok (.bipush 8, 2) := by decide +kernel
theorem dX9_word_130 : decode cX9_word 130 = .ok (.ireturn, 1) := by decide +kernel
theorem dX9_word_131 : decode cX9_word 131 = .ok (.aload_n 0, 1) := by decide +kernel
theorem dX9_word_132 : decode cX9_word 132 = .ok (.iload_n 1, 1) := by decide +kernel
theorem dX9_word_133 : decode cX9_word 133 = .ok (.ldc2_w 222, 3) := by decide +kernel
theorem dX9_word_136 : decode cX9_word 136 = .ok (.iconst 3, 1) := by decide +kernel
theorem dX9_word_137 : decode cX9_word 137 = .ok (.invokevirtual 202, 3) := by decide +kernel
theorem dX9_word_140 : decode cX9_word 140 = .ok (.ifCond .eq 6, 3) := by decide +kernel
theorem dX9_word_143 : decode cX9_word 143 = .ok (.bipush 9, 2) := by decide +kernel
theorem dX9_word_145 : decode cX9_word 145 = .ok (.ireturn, 1) := by decide +kernel
theorem dX9_word_146 : decode cX9_word 146 = .ok (.aload_n 0, 1) := by decide +kernel
theorem dX9_word_147 : decode cX9_word 147 = .ok (.iload_n 1, 1) := by decide +kernel
theorem dX9_word_148 : decode cX9_word 148 = .ok (.ldc2_w 224, 3) := by decide +kernel
theorem dX9_word_151 : decode cX9_word 151 = .ok (.iconst 3, 1) := by decide +kernel
theorem dX9_word_152 : decode cX9_word 152 = .ok (.invokevirtual 202, 3) := by decide +kernel
theorem dX9_word_155 : decode cX9_word 155 = .ok (.ifCond .eq 6, 3) := by decide +kernel
theorem dX9_word_158 : decode cX9_word 158 = .ok (.bipush 10, 2) := by decide +kernel
theorem dX9_word_160 : decode cX9_word 160 = .ok (.ireturn, 1) := by decide +kernel
theorem dX9_word_161 : decode cX9_word 161 = .ok (.bipush 11, 2) := by decide +kernel
theorem dX9_word_163 : decode cX9_word 163 = .ok (.ireturn, 1) := by decide +kernel
theorem dX9_peek_0 : decode cX9_peek 0 = .ok (.aload_n 0, 1) := by decide +kernel
theorem dX9_peek_1 : decode cX9_peek 1 = .ok (.invokevirtual 191, 3) := by decide +kernel
theorem dX9_peek_4 : decode cX9_peek 4 = .ok (.invokestatic 226, 3) := by decide +kernel
theorem dX9_peek_7 : decode cX9_peek 7 = .ok (.ifCond .eq 14, 3) := by decide +kernel
theorem dX9_peek_10 : decode cX9_peek 10 = .ok (.aload_n 0, 1) := by decide +kernel
theorem dX9_peek_11 : decode cX9_peek 11 = .ok (.aload_n 0, 1) := by decide +kernel
theorem dX9_peek_12 : decode cX9_peek 12 = .ok (.invokevirtual 229, 3) := by decide +kernel
theorem dX9_peek_15 : decode cX9_peek 15 = .ok (.invokevirtual 232, 3) := by decide +kernel
theorem dX9_peek_18 : decode cX9_peek 18 = .ok (.goto 4, 3) := by decide +kernel
theorem dX9_peek_21 : decode cX9_peek 21 = .ok (.iconst (-1), 1) := by decide +kernel
theorem dX9_peek_22 : decode cX9_peek 22 = .ok (.ireturn, 1) := by decide +kernel
theorem dX9_must_0 : decode cX9_must 0 = .ok (.aload_n 0, 1) := by decide +kernel
theorem dX9_must_1 : decode cX9_must 1 = .ok (.invokevirtual 191, 3) := by decide +kernel
theorem dX9_must_4 : decode cX9_must 4 = .ok (.iload_n 1, 1) := by decide +kernel
theorem dX9_must_5 : decode cX9_must 5 = .ok (.if_icmp .eq 12, 3) := by decide +kernel
theorem dX9_must_8 : decode cX9_must 8 = .ok (.aload_n 0, 1) := by decide +kernel
theorem dX9_must_9 : decode cX9_must 9 = .ok (.iconst 1, 1) := by decide +kernel
theorem dX9_must_10 : decode cX9_must 10 = .ok (.aload_n 0, 1) := by decide +kernel
theorem dX9_must_11 : decode cX9_must 11 = .ok (.getfield 87, 3) := by decide +kernel
theorem dX9_must_14 : decode cX9_must 14 = .ok (.invokevirtual 195, 3) := by decide +kernel
theorem dX9_must_17 : decode cX9_must 17 = .ok (.aload_n 0, 1) := by decide +kernel
theorem dX9_must_18 : decode cX9_must 18 = .ok (.dup, 1) := by decide +kernel
theorem dX9_must_19 : decode cX9_must 19 = .ok (.getfield 87, 3) := by decide +kernel
theorem dX9_must_22 : decode cX9_must 22 = .ok (.iconst 1, 1) := by decide +kernel
theorem dX9_must_23 : decode cX9_must 23 = .ok (.iadd, 1) := by decide +kernel
theorem dX9_must_24 : decode cX9_must 24 = .ok (.putfield 87, 3) := by decide +kernel
theorem dX9_must_27 : decode cX9_must 27 = .ok (.return_, 1) := by decide +kernel
set_option maxRecDepth 20000 in
theorem ggX9_wordEnd_X9_isLetter : GoodIn wsX9_wordEnd wsX9_isLetter := goodIn_r _ [7] rfl (by decide +kernel)
set_option maxRecDepth 20000 in
theorem gX9_wordEnd_X9_isLetter : GoodIn wsX9_wordEnd (va_wsS RX9 226 yX9_isLetter wsX9_isLetter) := goodIn_app (goodIn_of _ (by decide +kernel)) ggX9_wordEnd_X9_isLetter
set_option maxRecDepth 20000 in
theorem ggX9_word_X9_spells : GoodIn wsX9_word wsX9_spells := goodIn_r _ [16, 17, 18, 19, 20, 21, 22, 23, 24, 25, 26, 27, 28, 29, 30, 31, 32, 33, 34, 35, 36, 37, 38, 39, 40, 41, 42, 43, 44, 45, 46, 47, 48, 49, 50, 51, 52, 53, 54, 55, 56, 57, 58, 59, 60, 61, 62, 63] rfl (by decide +kernel)
set_option maxRecDepth 20000 in
theorem gX9_word_X9_spells : GoodIn wsX9_word (wsV RX9 202 RX9 yX9_spells wsX9_spells) := goodIn_app (goodIn_of _ (by decide +kernel)) ggX9_word_X9_spells
set_option maxRecDepth 20000 in
theorem ggX9_peek_X9_here : GoodIn wsX9_peek wsX9_here := goodIn_r _ [5, 6, 7, 8, 36, 37, 38, 39, 40, 41, 42, 43, 44, 45, 46, 47, 48, 49, 50, 51, 52, 53, 54, 55, 56, 57, 58, 59, 60, 61, 62, 63, 64, 65, 66, 67, 68, 69, 70, 71, 72, 73, 74, 75, 76, 77, 78, 79] rfl (by decide +kernel)
set_option maxRecDepth 20000 in
theorem gX9_peek_X9_here : GoodIn wsX9_peek (wsV RX9 191 RX9 yX9_here wsX9_here) := goodIn_app (goodIn_of _ (by decide +kernel)) ggX9_peek_X9_here
set_option maxRecDepth 20000 in
theorem ggX9_peek_X9_isLetter : GoodIn wsX9_peek wsX9_isLetter := goodIn_r _ [11] rfl (by decide +kernel)
set_option maxRecDepth 20000 in
theorem gX9_peek_X9_isLetter : GoodIn wsX9_peek (va_wsS RX9 226 yX9_isLetter wsX9_isLetter) := goodIn_app (goodIn_of _ (by decide +kernel)) ggX9_peek_X9_isLetter
set_option maxRecDepth 20000 in
theorem ggX9_peek_X9_wordEnd : GoodIn wsX9_peek wsX9_wordEnd := goodIn_r _ [15, 6, 7, 8, 9, 10, 4, 11, 36, 37, 38, 39, 40, 41, 42, 43, 44, 45, 46, 47, 48, 49, 50, 51, 52, 53, 54, 55, 56, 57, 58, 59, 60, 61, 62, 63, 64, 65, 66, 67, 68, 69, 70, 71, 72, 73, 74, 75, 76, 77, 78, 79] rfl (by decide +kernel)
set_option maxRecDepth 20000 in
theorem gX9_peek_X9_wordEnd : GoodIn wsX9_peek (wsV RX9 229 RX9 yX9_wordEnd wsX9_wordEnd) := goodIn_app (goodIn_of _ (by decide +kernel)) ggX9_peek_X9_wordEnd
set_option maxRecDepth 20000 in
theorem ggX9_peek_X9_word : GoodIn wsX9_peek wsX9_word := goodIn_r _ [19, 20, 21, 22, 23, 24, 25, 26, 27, 28, 29, 30, 31, 32, 33, 4, 34, 6, 8, 35, 36, 37, 38, 39, 40, 41, 42, 43, 44, 45, 46, 47, 48, 49, 50, 51, 52, 53, 54, 55, 56, 57, 58, 59, 60, 61, 62, 63, 64, 65, 66, 67, 68, 69, 70, 71, 72, 73, 74, 75, 76, 77, 78, 79] rfl (by decide +kernel)
set_option maxRecDepth 20000 in
theorem gX9_peek_X9_word : GoodIn wsX9_peek (wsV RX9 232 RX9 yX9_word wsX9_word) := goodIn_app (goodIn_of _ (by decide +kernel)) ggX9_peek_X9_word
set_option maxRecDepth 20000 in
theorem ggX9_must_X9_here : GoodIn wsX9_must wsX9_here := goodIn_r _ [6, 1, 7, 8, 15, 16, 17, 18, 19, 20, 21, 22, 23, 24, 25, 26, 27, 28, 29, 30, 31, 32, 33, 34, 35, 36, 37, 38, 39, 40, 41, 42, 43, 44, 45, 46, 47, 48, 49, 50, 51, 52, 53, 54, 55, 56, 57, 58] rfl (by decide +kernel)
set_option maxRecDepth 20000 in
theorem gX9_must_X9_here : GoodIn wsX9_must (wsV RX9 191 RX9 yX9_here wsX9_here) := goodIn_app (goodIn_of _ (by decide +kernel)) ggX9_must_X9_here
set_option maxRecDepth 20000 in
theorem ggX9_must_X9_blame : GoodIn wsX9_must wsX9_blame := goodIn_r _ [12, 13, 14, 15, 16, 17, 18, 19, 20, 21, 22, 23, 24, 25, 26, 27, 28, 29, 30, 31, 32, 33, 34, 35, 36, 37, 38, 39, 40, 41, 42, 43, 44, 45, 46, 47, 48, 49, 50, 51, 52, 53, 54, 55, 56, 57, 58] rfl (by decide +kernel)
set_option maxRecDepth 20000 in
theorem gX9_must_X9_blame : GoodIn wsX9_must (wsV RX9 195 RX9 yX9_blame wsX9_blame) := goodIn_app (goodIn_of _ (by decide +kernel)) ggX9_must_X9_blame
/-! the texts of rules: letters, words, the pile, the code of a rule (as the least relations that are closed under their steps) -/
def ltr (c : Int32) : Prop := ¬ c < 97 ∧ ¬ 122 < c
def blk (c : Int32) : Prop := c = 32 ∨ c = 10
def isE (f : Nat → Int32) (sz a e : Nat) : Prop := a ≤ e ∧ e ≤ sz ∧ (∀ i : Nat, a ≤ i → i < e → ltr (f i)) ∧ (e = sz ∨ ¬ ltr (f e))
theorem isE.uq {f : Nat → Int32} {sz a e e' : Nat} (h : isE f sz a e) (h' : isE f sz a e') : e = e' := by
  rcases Nat.lt_trichotomy e e' with q | q | q
  · rcases h.2.2.2 with z | z
    · have := h'.2.1; omega
    · exact absurd (h'.2.2.1 e h.1 q) z
  · exact q
  · rcases h'.2.2.2 with z | z
    · have := h.2.1; omega
    · exact absurd (h.2.2.1 e' h'.1 q) z
theorem up_ne {f : Nat → Int32} {k i : Nat} {x : Int32} (h : i ≠ k) : upd f k x i = f i := if_neg h
theorem up_eq {f : Nat → Int32} {k : Nat} {x : Int32} : upd f k x k = x := if_pos rfl
/-- the pile: p things, x nots, y brackets, j joins; k tells the top (1 or, 2 and, 0 else) -/
def pil (f : Nat → Int32) (p x y j k : Nat) : Prop := ∀ P : Nat → Nat → Nat → Nat → Nat → Prop, P 0 0 0 0 0 → (∀ p x y j k : Nat, P p x y j k → f p = 3 → P (p + 1) (x + 1) y j 0) → (∀ p x y j k : Nat, P p x y j k → f p = 12 → P (p + 1) x (y + 1) j 0) → (∀ p x y j : Nat, P p x y j 0 → f p = 1 → P (p + 1) x y (j + 1) 1) → (∀ p x y j k : Nat, P p x y j k → k ≤ 1 → f p = 2 → P (p + 1) x y (j + 1) 2) → P p x y j k
section PIL
variable {f g : Nat → Int32} {p x y j k : Nat}
theorem pil.nil : pil f 0 0 0 0 0 := fun _ h _ _ _ _ => h
theorem pil.no (h : pil f p x y j k) (e : f p = 3) : pil f (p + 1) (x + 1) y j 0 := fun P h0 h1 h2 h3 h4 => h1 _ _ _ _ _ (h P h0 h1 h2 h3 h4) e
theorem pil.br (h : pil f p x y j k) (e : f p = 12) : pil f (p + 1) x (y + 1) j 0 := fun P h0 h1 h2 h3 h4 => h2 _ _ _ _ _ (h P h0 h1 h2 h3 h4) e
theorem pil.or (h : pil f p x y j 0) (e : f p = 1) : pil f (p + 1) x y (j + 1) 1 := fun P h0 h1 h2 h3 h4 => h3 _ _ _ _ (h P h0 h1 h2 h3 h4) e
theorem pil.an (h : pil f p x y j k) (hk : k ≤ 1) (e : f p = 2) : pil f (p + 1) x y (j + 1) 2 := fun P h0 h1 h2 h3 h4 => h4 _ _ _ _ _ (h P h0 h1 h2 h3 h4) hk e
theorem pil.inv (h : pil f p x y j k) : (p = 0 ∧ x = 0 ∧ y = 0 ∧ j = 0 ∧ k = 0) ∨ (∃ p' x' k', p = p' + 1 ∧ x = x' + 1 ∧ k = 0 ∧ f p' = 3 ∧ pil f p' x' y j k') ∨ (∃ p' y' k', p = p' + 1 ∧ y = y' + 1 ∧ k = 0 ∧ f p' = 12 ∧ pil f p' x y' j k') ∨ (∃ p' j', p = p' + 1 ∧ j = j' + 1 ∧ k = 1 ∧ f p' = 1 ∧ pil f p' x y j' 0) ∨ (∃ p' j' k', p = p' + 1 ∧ j = j' + 1 ∧ k = 2 ∧ k' ≤ 1 ∧ f p' = 2 ∧ pil f p' x y j' k') :=
  (h (fun p x y j k => pil f p x y j k ∧ ((p = 0 ∧ x = 0 ∧ y = 0 ∧ j = 0 ∧ k = 0) ∨ (∃ p' x' k', p = p' + 1 ∧ x = x' + 1 ∧ k = 0 ∧ f p' = 3 ∧ pil f p' x' y j k') ∨ (∃ p' y' k', p = p' + 1 ∧ y = y' + 1 ∧ k = 0 ∧ f p' = 12 ∧ pil f p' x y' j k') ∨ (∃ p' j', p = p' + 1 ∧ j = j' + 1 ∧ k = 1 ∧ f p' = 1 ∧ pil f p' x y j' 0) ∨ (∃ p' j' k', p = p' + 1 ∧ j = j' + 1 ∧ k = 2 ∧ k' ≤ 1 ∧ f p' = 2 ∧ pil f p' x y j' k')))
    ⟨pil.nil, Or.inl ⟨rfl, rfl, rfl, rfl, rfl⟩⟩
    (fun p x y j k ih e => ⟨ih.1.no e, Or.inr (Or.inl ⟨p, x, k, rfl, rfl, rfl, e, ih.1⟩)⟩)
    (fun p x y j k ih e => ⟨ih.1.br e, Or.inr (Or.inr (Or.inl ⟨p, y, k, rfl, rfl, rfl, e, ih.1⟩))⟩)
    (fun p x y j ih e => ⟨ih.1.or e, Or.inr (Or.inr (Or.inr (Or.inl ⟨p, j, rfl, rfl, rfl, e, ih.1⟩)))⟩)
    (fun p x y j k ih hk e => ⟨ih.1.an hk e, Or.inr (Or.inr (Or.inr (Or.inr ⟨p, j, k, rfl, rfl, rfl, hk, e, ih.1⟩)))⟩)).2
theorem pil.len (h : pil f p x y j k) : p = x + y + j ∧ j ≤ 2 * (x + y) + k ∧ k ≤ 2 :=
  h (fun p x y j k => p = x + y + j ∧ j ≤ 2 * (x + y) + k ∧ k ≤ 2) ⟨rfl, by omega, by omega⟩ (fun p x y j k ih _ => ⟨by omega, by omega, by omega⟩) (fun p x y j k ih _ => ⟨by omega, by omega, by omega⟩) (fun p x y j ih _ => ⟨by omega, by omega, by omega⟩) (fun p x y j k ih _ _ => ⟨by omega, by omega, by omega⟩)
theorem pil.ext (h : pil f p x y j k) : (∀ i : Nat, i < p → g i = f i) → pil g p x y j k :=
  h (fun p x y j k => (∀ i : Nat, i < p → g i = f i) → pil g p x y j k) (fun _ => pil.nil)
    (fun p x y j k ih e hg => (ih (fun i hi => hg i (by omega))).no ((hg p (by omega)).trans e))
    (fun p x y j k ih e hg => (ih (fun i hi => hg i (by omega))).br ((hg p (by omega)).trans e))
    (fun p x y j ih e hg => (ih (fun i hi => hg i (by omega))).or ((hg p (by omega)).trans e))
    (fun p x y j k ih hk e hg => (ih (fun i hi => hg i (by omega))).an hk ((hg p (by omega)).trans e))
theorem pil.up (h : pil f p x y j k) (z : Int32) : pil (upd f p z) p x y j k := h.ext (fun i hi => up_ne (by omega))
theorem i3_1 : ¬ (3 : Int32) = 1 := by decide
theorem i3_2 : ¬ (3 : Int32) = 2 := by decide
theorem i12_1 : ¬ (12 : Int32) = 1 := by decide
theorem i12_2 : ¬ (12 : Int32) = 2 := by decide
theorem i12_3 : ¬ (12 : Int32) = 3 := by decide
theorem i1_3 : ¬ (1 : Int32) = 3 := by decide
theorem i2_3 : ¬ (2 : Int32) = 3 := by decide
theorem i1_2 : ¬ (1 : Int32) = 2 := by decide
theorem pil.popN (h : pil f p x y j k) (hp : 1 ≤ p) (e : f (p - 1) = 3) : 1 ≤ x ∧ ∃ k', pil f (p - 1) (x - 1) y j k' := by
  rcases h.inv with ⟨rfl, -⟩ | ⟨p', x', k', rfl, rfl, -, -, h'⟩ | ⟨p', y', k', rfl, rfl, -, e', h'⟩ | ⟨p', j', rfl, rfl, -, e', h'⟩ | ⟨p', j', k', rfl, rfl, -, -, e', h'⟩
  · omega
  · exact ⟨by omega, k', h'⟩
  · exact absurd (e'.symm.trans e) i12_3
  · exact absurd (e'.symm.trans e) i1_3
  · exact absurd (e'.symm.trans e) i2_3
theorem pil.popJ (h : pil f p x y j k) (hp : 1 ≤ p) (e : f (p - 1) = 2 ∨ f (p - 1) = 1) : 1 ≤ j ∧ ∃ k', pil f (p - 1) x y (j - 1) k' := by
  rcases h.inv with ⟨rfl, -⟩ | ⟨p', x', k', rfl, rfl, -, e', h'⟩ | ⟨p', y', k', rfl, rfl, -, e', h'⟩ | ⟨p', j', rfl, rfl, -, e', h'⟩ | ⟨p', j', k', rfl, rfl, -, -, e', h'⟩
  · omega
  · exact absurd e (fun q => q.elim (fun q => i3_2 (e'.symm.trans q)) (fun q => i3_1 (e'.symm.trans q)))
  · exact absurd e (fun q => q.elim (fun q => i12_2 (e'.symm.trans q)) (fun q => i12_1 (e'.symm.trans q)))
  · exact ⟨by omega, 0, h'⟩
  · exact ⟨by omega, k', h'⟩
theorem pil.popB (h : pil f p x y j 0) (hp : 1 ≤ p) : 1 ≤ x + y ∧ ∃ x' y' k', x' + y' + 1 = x + y ∧ x' ≤ x ∧ pil f (p - 1) x' y' j k' := by
  rcases h.inv with ⟨rfl, -⟩ | ⟨p', x', k', rfl, rfl, -, e', h'⟩ | ⟨p', y', k', rfl, rfl, -, e', h'⟩ | ⟨p', j', rfl, rfl, q, e', h'⟩ | ⟨p', j', k', rfl, rfl, q, -, e', h'⟩
  · omega
  · exact ⟨by omega, x', y, k', by omega, by omega, h'⟩
  · exact ⟨by omega, x, y', k', by omega, by omega, h'⟩
  · omega
  · omega
theorem pil.top (h : pil f p x y j k) : k = 0 ∨ (k = 1 ∧ 1 ≤ p ∧ f (p - 1) = 1) ∨ (k = 2 ∧ 1 ≤ p ∧ f (p - 1) = 2) := by
  rcases h.inv with ⟨-, -, -, -, rfl⟩ | ⟨p', x', k', -, -, rfl, -, -⟩ | ⟨p', y', k', -, -, rfl, -, -⟩ | ⟨p', j', rfl, -, rfl, e', -⟩ | ⟨p', j', k', rfl, -, rfl, -, e', -⟩
  · exact Or.inl rfl
  · exact Or.inl rfl
  · exact Or.inl rfl
  · exact Or.inr (Or.inl ⟨rfl, by omega, e'⟩)
  · exact Or.inr (Or.inr ⟨rfl, by omega, e'⟩)
end PIL
def okT (c : Int32) : Prop := ∃ q : Nat, (q = 0 ∨ q = 1 ∨ q = 2 ∨ (10 ≤ q ∧ q < 15) ∨ (30 ≤ q ∧ q < 34)) ∧ c = nI q
/-- the code from b on, L long, can be worked out and leaves n things -/
def wfs (f : Nat → Int32) (b L n : Nat) : Prop := ∀ P : Nat → Nat → Prop, P 0 0 → (∀ L n : Nat, P L n → f (b + L) = 13 → okT (f (b + L + 1)) → P (L + 4) (n + 1)) → (∀ L n : Nat, P L n → 1 ≤ n → f (b + L) = 3 → P (L + 1) n) → (∀ L n : Nat, P L n → 2 ≤ n → ¬ f (b + L) = 13 → ¬ f (b + L) = 3 → P (L + 1) (n - 1)) → P L n
/-- the same, from its head on: from k to e with n things held -/
def wfc (f : Nat → Int32) (e : Nat) : Nat → Nat → Nat → Prop
  | 0, k, _ => k = e
  | m + 1, k, n => k = e ∨ (k + 4 ≤ e ∧ f k = 13 ∧ okT (f (k + 1)) ∧ wfc f e m (k + 4) (n + 1)) ∨ (k + 1 ≤ e ∧ f k = 3 ∧ 1 ≤ n ∧ wfc f e m (k + 1) n) ∨ (k + 1 ≤ e ∧ ¬ f k = 13 ∧ ¬ f k = 3 ∧ 2 ≤ n ∧ wfc f e m (k + 1) (n - 1))
section WFS
variable {f g : Nat → Int32} {b L n : Nat}
theorem wfs.nil : wfs f b 0 0 := fun _ h _ _ _ => h
theorem wfs.te (h : wfs f b L n) (e : f (b + L) = 13) (o : okT (f (b + L + 1))) : wfs f b (L + 4) (n + 1) := fun P h0 h1 h2 h3 => h1 _ _ (h P h0 h1 h2 h3) e o
theorem wfs.no (h : wfs f b L n) (hn : 1 ≤ n) (e : f (b + L) = 3) : wfs f b (L + 1) n := fun P h0 h1 h2 h3 => h2 _ _ (h P h0 h1 h2 h3) hn e
theorem wfs.jo (h : wfs f b L n) (hn : 2 ≤ n) (e : ¬ f (b + L) = 13) (e2 : ¬ f (b + L) = 3) : wfs f b (L + 1) (n - 1) := fun P h0 h1 h2 h3 => h3 _ _ (h P h0 h1 h2 h3) hn e e2
theorem wfs.ext (h : wfs f b L n) : (∀ i : Nat, b ≤ i → i < b + L → g i = f i) → wfs g b L n :=
  h (fun L n => (∀ i : Nat, b ≤ i → i < b + L → g i = f i) → wfs g b L n) (fun _ => wfs.nil)
    (fun L n ih e o hg => (ih (fun i h1 h2 => hg i h1 (by omega))).te ((hg (b + L) (by omega) (by omega)).trans e) (by rw [hg (b + L + 1) (by omega) (by omega)]; exact o))
    (fun L n ih hn e hg => (ih (fun i h1 h2 => hg i h1 (by omega))).no hn ((hg (b + L) (by omega) (by omega)).trans e))
    (fun L n ih hn e e2 hg => (ih (fun i h1 h2 => hg i h1 (by omega))).jo hn (by rw [hg (b + L) (by omega) (by omega)]; exact e) (by rw [hg (b + L) (by omega) (by omega)]; exact e2))
theorem wfs.len (h : wfs f b L n) : 4 * n ≤ L := h (fun L n => 4 * n ≤ L) (by omega) (fun L n ih _ _ => by omega) (fun L n ih _ _ => by omega) (fun L n ih _ _ _ => by omega)
theorem wfs.fwd (h : wfs f b L n) : ∀ m e : Nat, b + L ≤ e → wfc f e m (b + L) n → ∃ m', wfc f e m' b 0 :=
  h (fun L n => ∀ m e : Nat, b + L ≤ e → wfc f e m (b + L) n → ∃ m', wfc f e m' b 0) (fun m e _ hw => ⟨m, hw⟩)
    (fun L n ih e13 o m e he hw => ih (m + 1) e (by omega) (Or.inr (Or.inl ⟨by omega, e13, o, hw⟩)))
    (fun L n ih hn e3 m e he hw => ih (m + 1) e (by omega) (Or.inr (Or.inr (Or.inl ⟨by omega, e3, hn, hw⟩))))
    (fun L n ih hn e13 e3 m e he hw => ih (m + 1) e (by omega) (Or.inr (Or.inr (Or.inr ⟨by omega, e13, e3, hn, hw⟩))))
theorem wfs.go (h : wfs f b L n) : ∃ m, wfc f (b + L) m b 0 := h.fwd 0 (b + L) (by omega) rfl
theorem wfc.step {e m k : Nat} (h : wfc f e m k n) (hk : k < e) : (∃ m', k + 4 ≤ e ∧ f k = 13 ∧ okT (f (k + 1)) ∧ wfc f e m' (k + 4) (n + 1)) ∨ (∃ m', f k = 3 ∧ 1 ≤ n ∧ wfc f e m' (k + 1) n) ∨ (∃ m', ¬ f k = 13 ∧ ¬ f k = 3 ∧ 2 ≤ n ∧ wfc f e m' (k + 1) (n - 1)) := by
  cases m with
  | zero => have h : k = e := h; omega
  | succ m =>
    rcases h with h | h | h | h
    · omega
    · exact Or.inl ⟨m, h⟩
    · exact Or.inr (Or.inl ⟨m, h.2⟩)
    · exact Or.inr (Or.inr ⟨m, h.2⟩)
end WFS
set_option maxHeartbeats 4000000 in
set_option maxRecDepth 100000 in
theorem s_X9_isLetter (l : Launch) (n : Int32) : Met l yX9_isLetter wsX9_isLetter ({ frames := 0, cells := 0, slots := 0, locals := 0 }) (va_Pc [.int n] (fun _ => True)) (vp_Si (fun r => (r = 0 ∧ ¬ ltr n) ∨ (r = 1 ∧ ltr n))) 0 0 (fun _ => False) := by
  refine Met.ofW (cc := cX9_isLetter) (maxL := 1) (ret := (some .boolean)) (by decide) rfl ?_
  intro p e s m args below meth c s₁ B hml hv
  obtain ⟨rfl, -⟩ := hv
  have hx := B.exec
  have hb := B.bytes
  have hr := B.returns
  have hts := atoms_spec (ws := wsX9_isLetter) B.pre
  have hown : s.vm.findClass RX9 = some m.cls := findClass_of_methodNamed B.named
  have hlocks := B.notSynchronized
  have hl := lv_entry ([.int n]) (n := 1) (Nat.le_of_ble_eq_true rfl)
  rw [lg_entry_eq]
  generalize (lg_sl ([.int n]) ++ List.replicate (1 - (lg_sl ([.int n])).length) Slot.unset).toArray = ls at hl ⊢
  have hl : lv_has ls 1 [(0, .int n)] := hl
  refine lv_iload_n hx hb dX9_isLetter_0 rfl (lv_at hl 0 rfl) ?_
  refine lv_bipush (v := 97) hx hb dX9_isLetter_1 (by decide) ?_
  refine lv_icmp_lt (tgt := 16) hx hb dX9_isLetter_3 (by decide) (fun c_1 => ?_) (fun c_1 => ?_)
  · refine lv_iconst (v := 0) hx hb dX9_isLetter_16 (by decide) ?_
    exact W.zret (v := 0) hx hb hr rfl (fun t ht hW => ⟨0, rfl, Or.inl ⟨rfl, fun h9 => h9.1 c_1⟩, ht⟩) (fun _ h9 => by cases h9) dX9_isLetter_17
  refine lv_iload_n hx hb dX9_isLetter_6 rfl (lv_at hl 0 rfl) ?_
  refine lv_bipush (v := 122) hx hb dX9_isLetter_7 (by decide) ?_
  refine lv_icmp_gt (tgt := 16) hx hb dX9_isLetter_9 (by decide) (fun c_2 => ?_) (fun c_2 => ?_)
  · refine lv_iconst (v := 0) hx hb dX9_isLetter_16 (by decide) ?_
    exact W.zret (v := 0) hx hb hr rfl (fun t ht hW => ⟨0, rfl, Or.inl ⟨rfl, fun h9 => h9.2 c_2⟩, ht⟩) (fun _ h9 => by cases h9) dX9_isLetter_17
  refine lv_iconst (v := 1) hx hb dX9_isLetter_12 (by decide) ?_
  refine lv_goto (tgt := 17) hx hb dX9_isLetter_13 (by decide) ?_
  exact W.zret (v := 1) hx hb hr rfl (fun t ht hW => ⟨1, rfl, Or.inr ⟨rfl, c_1, c_2⟩, ht⟩) (fun _ h9 => by cases h9) dX9_isLetter_17
set_option maxHeartbeats 4000000 in
set_option maxRecDepth 100000 in
theorem s_X9_isDigit (l : Launch) (n : Int32) : Met l yX9_isDigit wsX9_isDigit ({ frames := 0, cells := 0, slots := 0, locals := 0 }) (va_Pc [.int n] (fun _ => True)) (vp_Si (fun r => (r = 0 ∧ (n < 48 ∨ 57 < n)) ∨ (r = 1 ∧ ∃ d : Nat, d ≤ 9 ∧ n = nI (48 + d)))) 0 0 (fun _ => False) := by
  refine Met.ofW (cc := cX9_isDigit) (maxL := 1) (ret := (some .boolean)) (by decide) rfl ?_
  intro p e s m args below meth c s₁ B hml hv
  obtain ⟨rfl, -⟩ := hv
  have hx := B.exec
  have hb := B.bytes
  have hr := B.returns
  have hts := atoms_spec (ws := wsX9_isDigit) B.pre
  have hown : s.vm.findClass RX9 = some m.cls := findClass_of_methodNamed B.named
  have hlocks := B.notSynchronized
  have hl := lv_entry ([.int n]) (n := 1) (Nat.le_of_ble_eq_true rfl)
  rw [lg_entry_eq]
  generalize (lg_sl ([.int n]) ++ List.replicate (1 - (lg_sl ([.int n])).length) Slot.unset).toArray = ls at hl ⊢
  have hl : lv_has ls 1 [(0, .int n)] := hl
  refine lv_iload_n hx hb dX9_isDigit_0 rfl (lv_at hl 0 rfl) ?_
  refine lv_bipush (v := 48) hx hb dX9_isDigit_1 (by decide) ?_
  refine lv_icmp_lt (tgt := 16) hx hb dX9_isDigit_3 (by decide) (fun c_1 => ?_) (fun c_1 => ?_)
  · refine lv_iconst (v := 0) hx hb dX9_isDigit_16 (by decide) ?_
    exact W.zret (v := 0) hx hb hr rfl (fun t ht hW => ⟨0, rfl, Or.inl ⟨rfl, Or.inl c_1⟩, ht⟩) (fun _ h9 => by cases h9) dX9_isDigit_17
  refine lv_iload_n hx hb dX9_isDigit_6 rfl (lv_at hl 0 rfl) ?_
  refine lv_bipush (v := 57) hx hb dX9_isDigit_7 (by decide) ?_
  refine lv_icmp_gt (tgt := 16) hx hb dX9_isDigit_9 (by decide) (fun c_2 => ?_) (fun c_2 => ?_)
  · refine lv_iconst (v := 0) hx hb dX9_isDigit_16 (by decide) ?_
    exact W.zret (v := 0) hx hb hr rfl (fun t ht hW => ⟨0, rfl, Or.inl ⟨rfl, Or.inr c_2⟩, ht⟩) (fun _ h9 => by cases h9) dX9_isDigit_17
  refine lv_iconst (v := 1) hx hb dX9_isDigit_12 (by decide) ?_
  refine lv_goto (tgt := 17) hx hb dX9_isDigit_13 (by decide) ?_
  exact W.zret (v := 1) hx hb hr rfl (fun t ht hW => ⟨1, rfl, Or.inr ⟨rfl, by obtain ⟨j9, h1, h2, e9⟩ := is_nat (a := 48) (b := 57) c_1 c_2 (by omega); exact ⟨j9 - 48, by omega, by rw [e9, show 48 + (j9 - 48) = j9 by omega]⟩⟩, ht⟩) (fun _ h9 => by cases h9) dX9_isDigit_17
set_option maxHeartbeats 4000000 in
set_option maxRecDepth 100000 in
theorem m_blame (l : Launch) (D : va_G) (h0 : Nat) (ad : Nat → Nat) (cs : Nat → ClassId) (iv : Nat → Int32) (fv : Nat → Nat → Int32) (gv : Nat → Int64) (n21 : Nat) (kd : Nat) (a2 : Int32) (sz : Nat) (h21 : iv 21 = nI n21) (b21 : n21 ≤ 3) (hkd : 1 ≤ kd ∧ kd ≤ 3) : Met l yX9_blame wsX9_blame ({ frames := 0, cells := 0, slots := 0, locals := 0 }) (va_Pc [.ref h0, .int (nI kd), .int a2] (fun U => U.heap.size = sz ∧ va_P D vwCl (mw h0 ad cs iv fv gv) U.heap ∧ va_K D vwCl (mT cs) U ∧ va_D (fun _ => True) (mw h0 ad cs iv fv gv))) (va_Qv (fun _ : Unit => True) (fun (_ : Unit) (t : State) => ∃ (k21 : Nat) (p22 : Int32), (1 ≤ k21) ∧ (k21 ≤ 3) ∧ va_P D vwCl (mw h0 ad cs (upd (upd iv 21 (nI k21)) 22 p22) fv gv) t.heap ∧ va_K D vwCl (mT cs) t ∧ va_D (va_A (mw h0 ad cs iv fv gv) sz) (mw h0 ad cs (upd (upd iv 21 (nI k21)) 22 p22) fv gv)) (va_A (mw h0 ad cs iv fv gv) sz)) 0 0 (va_A (mw h0 ad cs iv fv gv) sz) := by
  refine Met.ofW (cc := cX9_blame) (maxL := 3) (ret := none) (by decide) rfl ?_
  intro p e s m args below meth c s₁ B hml hv
  obtain ⟨rfl, hsz, hP, hK, hD0⟩ := hv
  have hx := B.exec
  have hb := B.bytes
  have hr := B.returns
  have hts := atoms_spec (ws := wsX9_blame) B.pre
  have hown : s.vm.findClass RX9 = some m.cls := findClass_of_methodNamed B.named
  have hlocks := B.notSynchronized
  subst hsz
  have hD := hD0.self (sz := s.heap.size)
  generalize hAe : va_A (mw h0 ad cs iv fv gv) s.heap.size = A at hD ⊢
  have hA : ∀ q : Nat, s.heap.size ≤ q → A q := fun q h => by rw [← hAe]; exact Or.inr h
  have hS : va_S A s.heap s.heap [] := va_S.rf
  have hin9 : ∀ w ∈ u_ws RX9 TX9 44, w ∈ wsX9_blame := (fun _ h9 => List.mem_cons_of_mem _ ((List.mem_append_right _ h9)))
  have hl := lv_entry ([.ref h0, .int (nI kd), .int a2]) (n := 3) (Nat.le_of_ble_eq_true rfl)
  rw [lg_entry_eq]
  generalize (lg_sl ([.ref h0, .int (nI kd), .int a2]) ++ List.replicate (3 - (lg_sl ([.ref h0, .int (nI kd), .int a2])).length) Slot.unset).toArray = ls at hl ⊢
  have hl : lv_has ls 3 [(0, .ref h0), (1, .int (nI kd)), (2, .int a2)] := hl
  refine lv_aload_n hx hb dX9_blame_0 rfl (lv_at hl 0 rfl) ?_
  refine va_get (D := D) (ci := 9) (v := .int (iv 21)) (C := RX9) (T := TX9) (N := 44) hx hb hts hin9 hown hK hP 0 rfl rfl 21 (by decide) (hts (.fieldLink RX9 74 "HoneyHouseModel" "faultKind" "I") (List.mem_of_getElem? (i := 1) rfl)) (fun _ h9 => h9) rfl dX9_blame_1 ?_
  refine tp_i (y := nI n21) (h21) ?_
  refine lv_if_le (tgt := 8) hx hb dX9_blame_4 (by decide) (fun c_1 => ?_) (fun c_1 => ?_)
  · have d_2 := n_le (a := n21) (b := 0) (by omega) (by omega) c_1
    refine lv_aload_n hx hb dX9_blame_8 rfl (lv_at hl 0 rfl) ?_
    refine lv_iload_n hx hb dX9_blame_9 rfl (lv_at hl 1 rfl) ?_
    refine va_put (D := D) (ci := 9) (v := .int (nI kd)) (ty := .int) (C := RX9) (T := TX9) (N := 44) hx hb hts hin9 tyX9 tyX9_ok nmX9 hown hK hP hD hS 0 rfl rfl 21 (by decide) (hts (.fieldLink RX9 74 "HoneyHouseModel" "faultKind" "I") (List.mem_of_getElem? (i := 1) rfl)) (fun _ h9 => h9) rfl (tyX9_ok 21 (by decide)) rfl rfl (Nat.le_of_ble_eq_true rfl) dX9_blame_10 (fun H locs hP hD hS => ?_)
    have hP : va_P D vwCl (mw h0 ad cs (upd iv 21 (nI kd)) fv gv) H := hP
    have hD : va_D A (mw h0 ad cs (upd iv 21 (nI kd)) fv gv) := hD
    refine lv_aload_n hx hb dX9_blame_13 rfl (lv_at hl 0 rfl) ?_
    refine lv_iload_n hx hb dX9_blame_14 rfl (lv_at hl 2 rfl) ?_
    refine va_put (D := D) (ci := 9) (v := .int a2) (ty := .int) (C := RX9) (T := TX9) (N := 44) hx hb hts hin9 tyX9 tyX9_ok nmX9 hown hK hP hD hS 0 rfl rfl 22 (by decide) (hts (.fieldLink RX9 77 "HoneyHouseModel" "faultPlace" "I") (List.mem_of_getElem? (i := 2) rfl)) (fun _ h9 => h9) rfl (tyX9_ok 22 (by decide)) rfl rfl (Nat.le_of_ble_eq_true rfl) dX9_blame_15 (fun H locs hP hD hS => ?_)
    have hP : va_P D vwCl (mw h0 ad cs (upd (upd iv 21 (nI kd)) 22 a2) fv gv) H := hP
    have hD : va_D A (mw h0 ad cs (upd (upd iv 21 (nI kd)) 22 a2) fv gv) := hD
    have hP : va_P D vwCl (mw h0 ad cs (upd (upd iv 21 (nI kd)) 22 a2) fv gv) H := hP
    have hD : va_D A (mw h0 ad cs (upd (upd iv 21 (nI kd)) 22 a2) fv gv) := hD
    exact W.vret hx hb hr (fun t ht hW => ⟨⟨(), rfl, trivial, kd, a2, by omega, by omega, by rw [ht]; exact hP, va_K.moved hW.alike hK, hD⟩, hS.F ht⟩) hS.2.2 dX9_blame_18
  have d_3 := n_nle (a := n21) (b := 0) (by omega) (by omega) c_1
  have hP : va_P D vwCl (mw h0 ad cs (upd (upd iv 21 (iv 21)) 22 (iv 22)) fv gv) s.heap := hP
  have hD : va_D A (mw h0 ad cs (upd (upd iv 21 (iv 21)) 22 (iv 22)) fv gv) := hD
  have hP := hP
  rw [h21] at hP hD
  exact W.vret hx hb hr (fun t ht hW => ⟨⟨(), rfl, trivial, n21, iv 22, by omega, by omega, by rw [ht]; exact hP, va_K.moved hW.alike hK, hD⟩, hS.F ht⟩) hS.2.2 dX9_blame_7
set_option maxHeartbeats 4000000 in
set_option maxRecDepth 100000 in
theorem m_here (l : Launch) (D : va_G) (h0 : Nat) (ad : Nat → Nat) (cs : Nat → ClassId) (iv : Nat → Int32) (fv : Nat → Nat → Int32) (gv : Nat → Int64) (n25 n26 : Nat)  (sz : Nat) (h25 : iv 25 = nI n25) (h26 : iv 26 = nI n26) (b25 : n25 ≤ n26) (b26 : n26 ≤ 400) : Met l yX9_here wsX9_here ({ frames := 0, cells := 0, slots := 0, locals := 0 }) (va_Pc [.ref h0] (fun U => U.heap.size = sz ∧ va_P D vwCl (mw h0 ad cs iv fv gv) U.heap ∧ va_K D vwCl (mT cs) U ∧ va_D (fun _ => True) (mw h0 ad cs iv fv gv))) (va_Qi (fun (r u : Int32) => r = u) (fun (r : Int32) (t : State) => ∃ (k25 : Nat), (n25 ≤ k25) ∧ (k25 ≤ n26) ∧ (k25 = n26 ∨ ¬ blk (fv 0 k25)) ∧ ((n25 = n26 ∨ ¬ blk (fv 0 n25)) → k25 = n25) ∧ ((r = (-1) ∧ k25 = n26) ∨ (k25 < n26 ∧ r = fv 0 k25)) ∧ va_P D vwCl (mw h0 ad cs (upd iv 25 (nI k25)) fv gv) t.heap ∧ va_K D vwCl (mT cs) t ∧ va_D (va_A (mw h0 ad cs iv fv gv) sz) (mw h0 ad cs (upd iv 25 (nI k25)) fv gv)) (va_A (mw h0 ad cs iv fv gv) sz)) 0 0 (va_A (mw h0 ad cs iv fv gv) sz) := by
  refine Met.ofW (cc := cX9_here) (maxL := 1) (ret := (some .int)) (by decide) rfl ?_
  intro p e s m args below meth c s₁ B hml hv
  obtain ⟨rfl, hsz, hP, hK, hD0⟩ := hv
  have hx := B.exec
  have hb := B.bytes
  have hr := B.returns
  have hts := atoms_spec (ws := wsX9_here) B.pre
  have hown : s.vm.findClass RX9 = some m.cls := findClass_of_methodNamed B.named
  have hlocks := B.notSynchronized
  subst hsz
  have hD := hD0.self (sz := s.heap.size)
  generalize hAe : va_A (mw h0 ad cs iv fv gv) s.heap.size = A at hD ⊢
  have hA : ∀ q : Nat, s.heap.size ≤ q → A q := fun q h => by rw [← hAe]; exact Or.inr h
  have hS : va_S A s.heap s.heap [] := va_S.rf
  have hin9 : ∀ w ∈ u_ws RX9 TX9 44, w ∈ wsX9_here := (fun _ h9 => List.mem_cons_of_mem _ ((List.mem_append_right _ h9)))
  have hl := lv_entry ([.ref h0]) (n := 1) (Nat.le_of_ble_eq_true rfl)
  rw [lg_entry_eq]
  generalize (lg_sl ([.ref h0]) ++ List.replicate (1 - (lg_sl ([.ref h0])).length) Slot.unset).toArray = ls at hl ⊢
  have hl : lv_has ls 1 [(0, .ref h0)] := hl
  have hP : va_P D vwCl (mw h0 ad cs (upd iv 25 (iv 25)) fv gv) s.heap := hP
  have hD : va_D A (mw h0 ad cs (upd iv 25 (iv 25)) fv gv) := hD
  rw [h25] at hP hD
  refine lp_V (nL := 1) (σ := Nat) (lv := fun x9 => [(0, .ref h0)]) (μ := fun x9 => n26 - x9) (J := fun x9 ws9 => ws9 = (mw h0 ad cs (upd iv 25 (nI x9)) fv gv) ∧ (n25 ≤ x9) ∧ (x9 ≤ n26) ∧ (x9 = n25 ∨ (n25 < n26 ∧ blk (fv 0 n25)))) (fun x9 ws9 H locs ls hj hP hD hS hl ih_1 => ?_) n25 (mw h0 ad cs (upd iv 25 (nI n25)) fv gv) _ _ ls ⟨rfl, (show n25 ≤ n25 from by omega), (show n25 ≤ n26 from by omega), (show n25 = n25 ∨ (n25 < n26 ∧ blk (fv 0 n25)) from Or.inl rfl)⟩ hP hD hS (lv_sub hl [0] rfl)
  obtain ⟨a_2, hx9⟩ : ∃ y9, y9 = x9 := ⟨_, rfl⟩
  subst hx9
  replace hj : ws9 = (mw h0 ad cs (upd iv 25 (nI a_2)) fv gv) ∧ (n25 ≤ a_2) ∧ (a_2 ≤ n26) ∧ (a_2 = n25 ∨ (n25 < n26 ∧ blk (fv 0 n25))) := hj
  obtain ⟨rfl, ha_3, hb_4, hf_5⟩ := hj
  have hl : lv_has ls 1 [(0, .ref h0)] := hl
  refine lv_aload_n hx hb dX9_here_0 rfl (lv_at hl 0 rfl) ?_
  refine va_get (D := D) (ci := 9) (v := .int (nI a_2)) (C := RX9) (T := TX9) (N := 44) hx hb hts hin9 hown hK hP 0 rfl rfl 25 (by decide) (hts (.fieldLink RX9 87 "HoneyHouseModel" "at" "I") (List.mem_of_getElem? (i := 1) rfl)) (fun _ h9 => h9) rfl dX9_here_1 ?_
  refine lv_aload_n hx hb dX9_here_4 rfl (lv_at hl 0 rfl) ?_
  refine va_get (D := D) (ci := 9) (v := .int (iv 26)) (C := RX9) (T := TX9) (N := 44) hx hb hts hin9 hown hK hP 0 rfl rfl 26 (by decide) (hts (.fieldLink RX9 90 "HoneyHouseModel" "size" "I") (List.mem_of_getElem? (i := 2) rfl)) (fun _ h9 => h9) rfl dX9_here_5 ?_
  refine tp_i (y := nI n26) (h26) ?_
  refine lv_icmp_ge (tgt := 52) hx hb dX9_here_8 (by decide) (fun c_6 => ?_) (fun c_6 => ?_)
  · have d_7 := n_le (a := n26) (b := a_2) (by omega) (by omega) c_6
    refine lv_aload_n hx hb dX9_here_52 rfl (lv_at hl 0 rfl) ?_
    refine va_get (D := D) (ci := 9) (v := .int (nI a_2)) (C := RX9) (T := TX9) (N := 44) hx hb hts hin9 hown hK hP 0 rfl rfl 25 (by decide) (hts (.fieldLink RX9 87 "HoneyHouseModel" "at" "I") (List.mem_of_getElem? (i := 1) rfl)) (fun _ h9 => h9) rfl dX9_here_53 ?_
    refine lv_aload_n hx hb dX9_here_56 rfl (lv_at hl 0 rfl) ?_
    refine va_get (D := D) (ci := 9) (v := .int (iv 26)) (C := RX9) (T := TX9) (N := 44) hx hb hts hin9 hown hK hP 0 rfl rfl 26 (by decide) (hts (.fieldLink RX9 90 "HoneyHouseModel" "size" "I") (List.mem_of_getElem? (i := 2) rfl)) (fun _ h9 => h9) rfl dX9_here_57 ?_
    refine tp_i (y := nI n26) (h26) ?_
    refine lv_icmp_ge (tgt := 75) hx hb dX9_here_60 (by decide) (fun c_8 => ?_) (fun c_8 => absurd (nI_le (a := n26) (b := a_2) (by omega) (by omega)) c_8)
    refine lv_iconst (v := (-1)) hx hb dX9_here_75 (by decide) ?_
    have hP : va_P D vwCl (mw h0 ad cs (upd iv 25 (nI a_2)) fv gv) H := hP
    have hD : va_D A (mw h0 ad cs (upd iv 25 (nI a_2)) fv gv) := hD
    exact W.iret (v := (-1)) hx hb hr (fun t ht hW => ⟨⟨(-1), (-1), rfl, rfl, a_2, by omega, by omega, Or.inl (by omega), (fun h9 => hf_5.elim (fun q => q) (fun q => h9.elim (fun q2 => by omega) (fun q2 => absurd q.2 q2))), Or.inl ⟨rfl, by omega⟩, by rw [ht]; exact hP, va_K.moved hW.alike hK, hD⟩, hS.F ht⟩) hS.2.2 dX9_here_76
  have d_9 := n_nle (a := n26) (b := a_2) (by omega) (by omega) c_6
  refine lv_aload_n hx hb dX9_here_11 rfl (lv_at hl 0 rfl) ?_
  refine va_get (D := D) (ci := 9) (v := .ref (ad 0)) (C := RX9) (T := TX9) (N := 44) hx hb hts hin9 hown hK hP 0 rfl rfl 0 (by decide) (hts (.fieldLink RX9 7 "HoneyHouseModel" "tape" "[I") (List.mem_of_getElem? (i := 3) rfl)) (fun _ h9 => h9) rfl dX9_here_12 ?_
  refine lv_aload_n hx hb dX9_here_15 rfl (lv_at hl 0 rfl) ?_
  refine va_get (D := D) (ci := 9) (v := .int (nI a_2)) (C := RX9) (T := TX9) (N := 44) hx hb hts hin9 hown hK hP 0 rfl rfl 25 (by decide) (hts (.fieldLink RX9 87 "HoneyHouseModel" "at" "I") (List.mem_of_getElem? (i := 1) rfl)) (fun _ h9 => h9) rfl dX9_here_16 ?_
  refine va_iald (f := fv 0) (n := 400) hx hb hK hP 1 0 rfl rfl (vp_in_nI (n := a_2) (by omega) (by omega)) dX9_here_19 ?_
  refine lv_topi (fun z_10 hz_11 => ?_)
  rw [nI_clamp (n := a_2) (by omega)] at hz_11
  refine lv_bipush (v := 32) hx hb dX9_here_20 (by decide) ?_
  refine lv_icmp_eq (tgt := 39) hx hb dX9_here_22 (by decide) (fun c_12 => ?_) (fun c_12 => ?_)
  · refine lv_aload_n hx hb dX9_here_39 rfl (lv_at hl 0 rfl) ?_
    refine lv_dup hx hb dX9_here_40 rfl ?_
    refine va_get (D := D) (ci := 9) (v := .int (nI a_2)) (C := RX9) (T := TX9) (N := 44) hx hb hts hin9 hown hK hP 0 rfl rfl 25 (by decide) (hts (.fieldLink RX9 87 "HoneyHouseModel" "at" "I") (List.mem_of_getElem? (i := 1) rfl)) (fun _ h9 => h9) rfl dX9_here_41 ?_
    refine lv_iconst (v := 1) hx hb dX9_here_44 (by decide) ?_
    refine lv_iadd hx hb dX9_here_45 ?_
    refine tp_i (y := nI (a_2 + 1)) (nI_add a_2 1) ?_
    refine va_put (D := D) (ci := 9) (v := .int (nI (a_2 + 1))) (ty := .int) (C := RX9) (T := TX9) (N := 44) hx hb hts hin9 tyX9 tyX9_ok nmX9 hown hK hP hD hS 0 rfl rfl 25 (by decide) (hts (.fieldLink RX9 87 "HoneyHouseModel" "at" "I") (List.mem_of_getElem? (i := 1) rfl)) (fun _ h9 => h9) rfl (tyX9_ok 25 (by decide)) rfl rfl (Nat.le_of_ble_eq_true rfl) dX9_here_46 (fun H locs hP hD hS => ?_)
    have hP : va_P D vwCl (mw h0 ad cs (upd iv 25 (nI (a_2 + 1))) fv gv) H := hP
    have hD : va_D A (mw h0 ad cs (upd iv 25 (nI (a_2 + 1))) fv gv) := hD
    refine lv_goto (tgt := 0) hx hb dX9_here_49 (by decide) ?_
    exact ih_1 (a_2 + 1) (mw h0 ad cs (upd iv 25 (nI (a_2 + 1))) fv gv) _ _ ls (by show n26 - (a_2 + 1) < n26 - a_2; omega) ⟨rfl, (show n25 ≤ (a_2 + 1) from by omega), (show (a_2 + 1) ≤ n26 from by omega), (show (a_2 + 1) = n25 ∨ (n25 < n26 ∧ blk (fv 0 n25)) from Or.inr ⟨by omega, hf_5.elim (fun h9 => by rw [← h9]; exact Or.inl (hz_11.symm.trans c_12)) (fun h9 => h9.2)⟩)⟩ hP hD hS (lv_sub hl [0] rfl)
  refine lv_aload_n hx hb dX9_here_25 rfl (lv_at hl 0 rfl) ?_
  refine va_get (D := D) (ci := 9) (v := .ref (ad 0)) (C := RX9) (T := TX9) (N := 44) hx hb hts hin9 hown hK hP 0 rfl rfl 0 (by decide) (hts (.fieldLink RX9 7 "HoneyHouseModel" "tape" "[I") (List.mem_of_getElem? (i := 3) rfl)) (fun _ h9 => h9) rfl dX9_here_26 ?_
  refine lv_aload_n hx hb dX9_here_29 rfl (lv_at hl 0 rfl) ?_
  refine va_get (D := D) (ci := 9) (v := .int (nI a_2)) (C := RX9) (T := TX9) (N := 44) hx hb hts hin9 hown hK hP 0 rfl rfl 25 (by decide) (hts (.fieldLink RX9 87 "HoneyHouseModel" "at" "I") (List.mem_of_getElem? (i := 1) rfl)) (fun _ h9 => h9) rfl dX9_here_30 ?_
  refine va_iald (f := fv 0) (n := 400) hx hb hK hP 1 0 rfl rfl (vp_in_nI (n := a_2) (by omega) (by omega)) dX9_here_33 ?_
  refine lv_topi (fun z_13 hz_14 => ?_)
  rw [nI_clamp (n := a_2) (by omega)] at hz_14
  refine lv_bipush (v := 10) hx hb dX9_here_34 (by decide) ?_
  refine lv_icmp_ne (tgt := 52) hx hb dX9_here_36 (by decide) (fun c_15 => ?_) (fun c_15 => ?_)
  · refine lv_aload_n hx hb dX9_here_52 rfl (lv_at hl 0 rfl) ?_
    refine va_get (D := D) (ci := 9) (v := .int (nI a_2)) (C := RX9) (T := TX9) (N := 44) hx hb hts hin9 hown hK hP 0 rfl rfl 25 (by decide) (hts (.fieldLink RX9 87 "HoneyHouseModel" "at" "I") (List.mem_of_getElem? (i := 1) rfl)) (fun _ h9 => h9) rfl dX9_here_53 ?_
    refine lv_aload_n hx hb dX9_here_56 rfl (lv_at hl 0 rfl) ?_
    refine va_get (D := D) (ci := 9) (v := .int (iv 26)) (C := RX9) (T := TX9) (N := 44) hx hb hts hin9 hown hK hP 0 rfl rfl 26 (by decide) (hts (.fieldLink RX9 90 "HoneyHouseModel" "size" "I") (List.mem_of_getElem? (i := 2) rfl)) (fun _ h9 => h9) rfl dX9_here_57 ?_
    refine tp_i (y := nI n26) (h26) ?_
    refine lv_icmp_ge (tgt := 75) hx hb dX9_here_60 (by decide) (fun c_16 => absurd c_16 (nI_ge (a := a_2) (b := n26) (by omega) (by omega))) (fun c_16 => ?_)
    refine lv_aload_n hx hb dX9_here_63 rfl (lv_at hl 0 rfl) ?_
    refine va_get (D := D) (ci := 9) (v := .ref (ad 0)) (C := RX9) (T := TX9) (N := 44) hx hb hts hin9 hown hK hP 0 rfl rfl 0 (by decide) (hts (.fieldLink RX9 7 "HoneyHouseModel" "tape" "[I") (List.mem_of_getElem? (i := 3) rfl)) (fun _ h9 => h9) rfl dX9_here_64 ?_
    refine lv_aload_n hx hb dX9_here_67 rfl (lv_at hl 0 rfl) ?_
    refine va_get (D := D) (ci := 9) (v := .int (nI a_2)) (C := RX9) (T := TX9) (N := 44) hx hb hts hin9 hown hK hP 0 rfl rfl 25 (by decide) (hts (.fieldLink RX9 87 "HoneyHouseModel" "at" "I") (List.mem_of_getElem? (i := 1) rfl)) (fun _ h9 => h9) rfl dX9_here_68 ?_
    refine va_iald (f := fv 0) (n := 400) hx hb hK hP 1 0 rfl rfl (vp_in_nI (n := a_2) (by omega) (by omega)) dX9_here_71 ?_
    refine lv_topi (fun z_17 hz_18 => ?_)
    rw [nI_clamp (n := a_2) (by omega)] at hz_18
    refine lv_goto (tgt := 76) hx hb dX9_here_72 (by decide) ?_
    have hP : va_P D vwCl (mw h0 ad cs (upd iv 25 (nI a_2)) fv gv) H := hP
    have hD : va_D A (mw h0 ad cs (upd iv 25 (nI a_2)) fv gv) := hD
    exact W.iret (v := z_17) hx hb hr (fun t ht hW => ⟨⟨z_17, z_17, rfl, rfl, a_2, by omega, by omega, Or.inr (fun h9 => h9.elim (fun q => c_12 (hz_11.trans q)) (fun q => c_15 (hz_14.trans q))), (fun h9 => hf_5.elim (fun q => q) (fun q => h9.elim (fun q2 => by omega) (fun q2 => absurd q.2 q2))), Or.inr ⟨by omega, hz_18⟩, by rw [ht]; exact hP, va_K.moved hW.alike hK, hD⟩, hS.F ht⟩) hS.2.2 dX9_here_76
  refine lv_aload_n hx hb dX9_here_39 rfl (lv_at hl 0 rfl) ?_
  refine lv_dup hx hb dX9_here_40 rfl ?_
  refine va_get (D := D) (ci := 9) (v := .int (nI a_2)) (C := RX9) (T := TX9) (N := 44) hx hb hts hin9 hown hK hP 0 rfl rfl 25 (by decide) (hts (.fieldLink RX9 87 "HoneyHouseModel" "at" "I") (List.mem_of_getElem? (i := 1) rfl)) (fun _ h9 => h9) rfl dX9_here_41 ?_
  refine lv_iconst (v := 1) hx hb dX9_here_44 (by decide) ?_
  refine lv_iadd hx hb dX9_here_45 ?_
  refine tp_i (y := nI (a_2 + 1)) (nI_add a_2 1) ?_
  refine va_put (D := D) (ci := 9) (v := .int (nI (a_2 + 1))) (ty := .int) (C := RX9) (T := TX9) (N := 44) hx hb hts hin9 tyX9 tyX9_ok nmX9 hown hK hP hD hS 0 rfl rfl 25 (by decide) (hts (.fieldLink RX9 87 "HoneyHouseModel" "at" "I") (List.mem_of_getElem? (i := 1) rfl)) (fun _ h9 => h9) rfl (tyX9_ok 25 (by decide)) rfl rfl (Nat.le_of_ble_eq_true rfl) dX9_here_46 (fun H locs hP hD hS => ?_)
  have hP : va_P D vwCl (mw h0 ad cs (upd iv 25 (nI (a_2 + 1))) fv gv) H := hP
  have hD : va_D A (mw h0 ad cs (upd iv 25 (nI (a_2 + 1))) fv gv) := hD
  refine lv_goto (tgt := 0) hx hb dX9_here_49 (by decide) ?_
  exact ih_1 (a_2 + 1) (mw h0 ad cs (upd iv 25 (nI (a_2 + 1))) fv gv) _ _ ls (by show n26 - (a_2 + 1) < n26 - a_2; omega) ⟨rfl, (show n25 ≤ (a_2 + 1) from by omega), (show (a_2 + 1) ≤ n26 from by omega), (show (a_2 + 1) = n25 ∨ (n25 < n26 ∧ blk (fv 0 n25)) from Or.inr ⟨by omega, hf_5.elim (fun h9 => by rw [← h9]; exact Or.inr (hz_14.symm.trans c_15)) (fun h9 => h9.2)⟩)⟩ hP hD hS (lv_sub hl [0] rfl)
set_option maxHeartbeats 4000000 in
set_option maxRecDepth 100000 in
theorem m_wordEnd (l : Launch) (D : va_G) (h0 : Nat) (ad : Nat → Nat) (cs : Nat → ClassId) (iv : Nat → Int32) (fv : Nat → Nat → Int32) (gv : Nat → Int64) (n25 n26 : Nat)  (h25 : iv 25 = nI n25) (h26 : iv 26 = nI n26) (b25 : n25 ≤ n26) (b26 : n26 ≤ 400) : Met l yX9_wordEnd wsX9_wordEnd ({ frames := 1, cells := 0, slots := 0, locals := 20 }) (va_Pc [.ref h0] (fun U => va_P D vwCl (mw h0 ad cs iv fv gv) U.heap ∧ va_K D vwCl (mT cs) U)) (vp_Si (fun r => ∃ e : Nat, r = nI e ∧ isE (fv 0) n26 n25 e)) 0 0 (fun _ => False) := by
  refine Met.ofW (cc := cX9_wordEnd) (maxL := 2) (ret := (some .int)) (by decide) rfl ?_
  intro p e s m args below meth c s₁ B hml hv
  obtain ⟨rfl, hP, hK⟩ := hv
  have hx := B.exec
  have hb := B.bytes
  have hr := B.returns
  have hts := atoms_spec (ws := wsX9_wordEnd) B.pre
  have hown : s.vm.findClass RX9 = some m.cls := findClass_of_methodNamed B.named
  have hlocks := B.notSynchronized
  have hin9 : ∀ w ∈ u_ws RX9 TX9 44, w ∈ wsX9_wordEnd := (fun _ h9 => List.mem_cons_of_mem _ ((List.mem_append_right _ h9)))
  have hl := lv_entry ([.ref h0]) (n := 2) (Nat.le_of_ble_eq_true rfl)
  rw [lg_entry_eq]
  generalize (lg_sl ([.ref h0]) ++ List.replicate (2 - (lg_sl ([.ref h0])).length) Slot.unset).toArray = ls at hl ⊢
  have hl : lv_has ls 2 [(0, .ref h0)] := hl
  refine lv_aload_n hx hb dX9_wordEnd_0 rfl (lv_at hl 0 rfl) ?_
  refine va_get (D := D) (ci := 9) (v := .int (iv 25)) (C := RX9) (T := TX9) (N := 44) hx hb hts hin9 hown hK hP 0 rfl rfl 25 (by decide) (hts (.fieldLink RX9 87 "HoneyHouseModel" "at" "I") (List.mem_of_getElem? (i := 1) rfl)) (fun _ h9 => h9) rfl dX9_wordEnd_1 ?_
  refine tp_i (y := nI n25) (h25) ?_
  refine lv_istore_n (lv' := [(1, .int (nI n25)), (0, .ref h0)]) hx hb dX9_wordEnd_4 rfl hl (by decide) rfl (fun ls hl => ?_)
  refine lp_R (nL := 2) (σ := Nat) (lv := fun x9 => [(1, .int (nI x9)), (0, .ref h0)]) (μ := fun x9 => n26 - x9) (J := fun x9 => (n25 ≤ x9) ∧ (x9 ≤ n26) ∧ (∀ i : Nat, n25 ≤ i → i < x9 → ltr (fv 0 i))) (fun x9 ls hj hl ih_1 => ?_) n25 ls ⟨(show n25 ≤ n25 from by omega), (show n25 ≤ n26 from by omega), (show ∀ i : Nat, n25 ≤ i → i < n25 → ltr (fv 0 i) from fun i h1 h2 => absurd h2 (by omega))⟩ (lv_sub hl [0, 1] rfl)
  obtain ⟨e_2, hx9⟩ : ∃ y9, y9 = x9 := ⟨_, rfl⟩
  subst hx9
  replace hj : (n25 ≤ e_2) ∧ (e_2 ≤ n26) ∧ (∀ i : Nat, n25 ≤ i → i < e_2 → ltr (fv 0 i)) := hj
  obtain ⟨ha_3, hb_4, hl9_5⟩ := hj
  have hl : lv_has ls 2 [(1, .int (nI e_2)), (0, .ref h0)] := hl
  refine lv_iload_n hx hb dX9_wordEnd_5 rfl (lv_at hl 0 rfl) ?_
  refine lv_aload_n hx hb dX9_wordEnd_6 rfl (lv_at hl 1 rfl) ?_
  refine va_get (D := D) (ci := 9) (v := .int (iv 26)) (C := RX9) (T := TX9) (N := 44) hx hb hts hin9 hown hK hP 0 rfl rfl 26 (by decide) (hts (.fieldLink RX9 90 "HoneyHouseModel" "size" "I") (List.mem_of_getElem? (i := 2) rfl)) (fun _ h9 => h9) rfl dX9_wordEnd_7 ?_
  refine tp_i (y := nI n26) (h26) ?_
  refine lv_icmp_ge (tgt := 31) hx hb dX9_wordEnd_10 (by decide) (fun c_6 => ?_) (fun c_6 => ?_)
  · have d_7 := n_le (a := n26) (b := e_2) (by omega) (by omega) c_6
    refine lv_iload_n hx hb dX9_wordEnd_31 rfl (lv_at hl 0 rfl) ?_
    exact W.iret (v := nI e_2) hx hb hr (fun t ht hW => ⟨nI e_2, rfl, ⟨e_2, rfl, by omega, by omega, hl9_5, Or.inl (by omega)⟩, ht⟩) (fun _ h9 => by cases h9) dX9_wordEnd_32
  have d_8 := n_nle (a := n26) (b := e_2) (by omega) (by omega) c_6
  refine lv_aload_n hx hb dX9_wordEnd_13 rfl (lv_at hl 1 rfl) ?_
  refine va_get (D := D) (ci := 9) (v := .ref (ad 0)) (C := RX9) (T := TX9) (N := 44) hx hb hts hin9 hown hK hP 0 rfl rfl 0 (by decide) (hts (.fieldLink RX9 7 "HoneyHouseModel" "tape" "[I") (List.mem_of_getElem? (i := 3) rfl)) (fun _ h9 => h9) rfl dX9_wordEnd_14 ?_
  refine lv_iload_n hx hb dX9_wordEnd_17 rfl (lv_at hl 0 rfl) ?_
  refine va_iald (f := fv 0) (n := 400) hx hb hK hP 1 0 rfl rfl (vp_in_nI (n := e_2) (by omega) (by omega)) dX9_wordEnd_18 ?_
  refine lv_topi (fun z_9 hz_10 => ?_)
  rw [nI_clamp (n := e_2) (by omega)] at hz_10
  refine vp_callSi (W.runS (As := [.int z_9]) (rest := []) ⟨hx, hb, hml, hown, hts⟩ (s_X9_isLetter l z_9) (va_cwS 1 hts gX9_wordEnd_X9_isLetter rfl rfl rfl (by decide +kernel) ⟨Nat.le_of_ble_eq_true rfl, Nat.le_of_ble_eq_true rfl⟩) ⟨fun a U g mk q => q, fun U hU hW => ⟨rfl, trivial⟩⟩ rfl rfl hl.1 rfl (lv_room (Nat.le_of_ble_eq_true rfl)) dX9_wordEnd_19 ⟨Nat.le_of_ble_eq_true rfl, Nat.le_of_ble_eq_true rfl⟩) (fun r_11 k_12 => ?_)
  rcases k_12 with ⟨rfl, lt_13⟩ | ⟨rfl, lt_13⟩
  · refine lv_if_eq (tgt := 31) hx hb dX9_wordEnd_22 (by decide) (fun c_14 => ?_) (fun c_14 => absurd (by decide) c_14)
    refine lv_iload_n hx hb dX9_wordEnd_31 rfl (lv_at hl 0 rfl) ?_
    exact W.iret (v := nI e_2) hx hb hr (fun t ht hW => ⟨nI e_2, rfl, ⟨e_2, rfl, by omega, by omega, hl9_5, Or.inr (by rw [← hz_10]; exact lt_13)⟩, ht⟩) (fun _ h9 => by cases h9) dX9_wordEnd_32
  refine lv_if_eq (tgt := 31) hx hb dX9_wordEnd_22 (by decide) (fun c_15 => absurd c_15 (by decide)) (fun c_15 => ?_)
  refine lv_iinc (v := nI (e_2 + 1)) (lv' := [(1, .int (nI (e_2 + 1))), (0, .ref h0)]) hx hb dX9_wordEnd_25 hl (k := 0) rfl (nI_add e_2 1) (by decide) rfl (fun ls hl => ?_)
  refine lv_goto (tgt := 5) hx hb dX9_wordEnd_28 (by decide) ?_
  exact ih_1 (e_2 + 1) ls (by show n26 - (e_2 + 1) < n26 - e_2; omega) ⟨(show n25 ≤ (e_2 + 1) from by omega), (show (e_2 + 1) ≤ n26 from by omega), (show ∀ i : Nat, n25 ≤ i → i < (e_2 + 1) → ltr (fv 0 i) from fun i h1 h2 => (Nat.lt_or_ge i e_2).elim (fun q => hl9_5 i h1 q) (fun q => by rw [show i = e_2 by omega, ← hz_10]; exact lt_13))⟩ (lv_sub hl [0, 1] rfl)
set_option maxHeartbeats 4000000 in
set_option maxRecDepth 100000 in
theorem m_spells (l : Launch) (D : va_G) (h0 : Nat) (ad : Nat → Nat) (cs : Nat → ClassId) (iv : Nat → Int32) (fv : Nat → Nat → Int32) (gv : Nat → Int64) (n25 : Nat) (ee : Nat) (wd : Int64) (n : Nat) (h25 : iv 25 = nI n25) (he : n25 ≤ ee ∧ ee ≤ 400) (hn : 1 ≤ n ∧ n ≤ 6) : Met l yX9_spells wsX9_spells ({ frames := 0, cells := 0, slots := 0, locals := 0 }) (va_Pc [.ref h0, .int (nI ee), .long wd, .int (nI n)] (fun U => va_P D vwCl (mw h0 ad cs iv fv gv) U.heap ∧ va_K D vwCl (mT cs) U)) (vp_Si (fun r => r = 0 ∨ (r = 1 ∧ ee = n25 + n))) 0 0 (fun _ => False) := by
  refine Met.ofW (cc := cX9_spells) (maxL := 7) (ret := (some .boolean)) (by decide) rfl ?_
  intro p e s m args below meth c s₁ B hml hv
  obtain ⟨rfl, hP, hK⟩ := hv
  have hx := B.exec
  have hb := B.bytes
  have hr := B.returns
  have hts := atoms_spec (ws := wsX9_spells) B.pre
  have hown : s.vm.findClass RX9 = some m.cls := findClass_of_methodNamed B.named
  have hlocks := B.notSynchronized
  have hin9 : ∀ w ∈ u_ws RX9 TX9 44, w ∈ wsX9_spells := (fun _ h9 => List.mem_cons_of_mem _ ((List.mem_append_right _ h9)))
  have hl := lv_entry ([.ref h0, .int (nI ee), .long wd, .int (nI n)]) (n := 7) (Nat.le_of_ble_eq_true rfl)
  rw [lg_entry_eq]
  generalize (lg_sl ([.ref h0, .int (nI ee), .long wd, .int (nI n)]) ++ List.replicate (7 - (lg_sl ([.ref h0, .int (nI ee), .long wd, .int (nI n)])).length) Slot.unset).toArray = ls at hl ⊢
  have hl : lv_has ls 7 [(0, .ref h0), (1, .int (nI ee)), (2, .long wd), (4, .int (nI n))] := hl
  refine lv_iload_n hx hb dX9_spells_0 rfl (lv_at hl 1 rfl) ?_
  refine lv_aload_n hx hb dX9_spells_1 rfl (lv_at hl 0 rfl) ?_
  refine va_get (D := D) (ci := 9) (v := .int (iv 25)) (C := RX9) (T := TX9) (N := 44) hx hb hts hin9 hown hK hP 0 rfl rfl 25 (by decide) (hts (.fieldLink RX9 87 "HoneyHouseModel" "at" "I") (List.mem_of_getElem? (i := 1) rfl)) (fun _ h9 => h9) rfl dX9_spells_2 ?_
  refine tp_i (y := nI n25) (h25) ?_
  refine lv_isub hx hb dX9_spells_5 ?_
  refine tp_i (y := nI (ee - n25)) (pk_sub (a := ee) (b := n25) (by omega)) ?_
  refine lv_iload hx hb dX9_spells_6 (lv_at hl 3 rfl) ?_
  refine lv_icmp_eq (tgt := 13) hx hb dX9_spells_8 (by decide) (fun c_1 => ?_) (fun c_1 => ?_)
  · have d_2 := n_eq (a := ee - n25) (b := n) (by omega) (by omega) c_1
    refine lv_iconst (v := 1) hx hb dX9_spells_13 (by decide) ?_
    refine lv_istore (lv' := [(5, .int 1), (0, .ref h0), (1, .int (nI ee)), (2, .long wd), (4, .int (nI n))]) hx hb dX9_spells_14 hl (by decide) rfl (fun ls hl => ?_)
    refine lv_iconst (v := 0) hx hb dX9_spells_16 (by decide) ?_
    refine lv_istore (lv' := [(6, .int 0), (5, .int 1), (0, .ref h0), (1, .int (nI ee)), (2, .long wd), (4, .int (nI n))]) hx hb dX9_spells_17 hl (by decide) rfl (fun ls hl => ?_)
    refine lp_R (nL := 7) (σ := Nat × Int32) (lv := fun x9 => [(6, .int (nI x9.1)), (5, .int x9.2), (4, .int (nI n)), (2, .long wd), (1, .int (nI ee)), (0, .ref h0)]) (μ := fun x9 => n - x9.1) (J := fun x9 => (x9.1 ≤ n) ∧ (x9.2 = 0 ∨ x9.2 = 1)) (fun x9 ls hj hl ih_3 => ?_) (0, 1) ls ⟨(show 0 ≤ n from by omega), (show 1 = 0 ∨ 1 = 1 from Or.inr rfl)⟩ (lv_sub hl [0, 1, 5, 4, 3, 2] rfl)
    obtain ⟨i_4, x_5⟩ := x9
    replace hj : (i_4 ≤ n) ∧ (x_5 = 0 ∨ x_5 = 1) := hj
    obtain ⟨hi_6, hb_7⟩ := hj
    have hl : lv_has ls 7 [(6, .int (nI i_4)), (5, .int x_5), (4, .int (nI n)), (2, .long wd), (1, .int (nI ee)), (0, .ref h0)] := hl
    refine lv_iload hx hb dX9_spells_19 (lv_at hl 0 rfl) ?_
    refine lv_iload hx hb dX9_spells_21 (lv_at hl 2 rfl) ?_
    refine lv_icmp_ge (tgt := 76) hx hb dX9_spells_23 (by decide) (fun c_8 => ?_) (fun c_8 => ?_)
    · have d_9 := n_le (a := n) (b := i_4) (by omega) (by omega) c_8
      refine lv_iload hx hb dX9_spells_76 (lv_at hl 1 rfl) ?_
      exact W.zret (v := x_5) hx hb hr (by rcases hb_7 with h9 | h9 <;> rw [h9] <;> rfl) (fun t ht hW => ⟨x_5, rfl, (hb_7.imp id (fun h9 => ⟨h9, by omega⟩)), ht⟩) (fun _ h9 => by cases h9) dX9_spells_78
    have d_10 := n_nle (a := n) (b := i_4) (by omega) (by omega) c_8
    refine lv_iload hx hb dX9_spells_26 (lv_at hl 1 rfl) ?_
    refine lv_if_eq (tgt := 67) hx hb dX9_spells_28 (by decide) (fun c_11 => ?_) (fun c_11 => ?_)
    · refine lv_iconst (v := 0) hx hb dX9_spells_67 (by decide) ?_
      refine lv_istore (lv' := [(5, .int 0), (6, .int (nI i_4)), (4, .int (nI n)), (2, .long wd), (1, .int (nI ee)), (0, .ref h0)]) hx hb dX9_spells_68 hl (by decide) rfl (fun ls hl => ?_)
      refine lv_iinc (v := nI (i_4 + 1)) (lv' := [(6, .int (nI (i_4 + 1))), (5, .int 0), (4, .int (nI n)), (2, .long wd), (1, .int (nI ee)), (0, .ref h0)]) hx hb dX9_spells_70 hl (k := 1) rfl (nI_add i_4 1) (by decide) rfl (fun ls hl => ?_)
      refine lv_goto (tgt := 19) hx hb dX9_spells_73 (by decide) ?_
      exact ih_3 (i_4 + 1, 0) ls (by show n - (i_4 + 1) < n - i_4; omega) ⟨(show (i_4 + 1) ≤ n from by omega), (show 0 = 0 ∨ 0 = 1 from Or.inl rfl)⟩ (lv_sub hl [0, 1, 2, 3, 4, 5] rfl)
    refine lv_aload_n hx hb dX9_spells_31 rfl (lv_at hl 5 rfl) ?_
    refine va_get (D := D) (ci := 9) (v := .ref (ad 0)) (C := RX9) (T := TX9) (N := 44) hx hb hts hin9 hown hK hP 0 rfl rfl 0 (by decide) (hts (.fieldLink RX9 7 "HoneyHouseModel" "tape" "[I") (List.mem_of_getElem? (i := 2) rfl)) (fun _ h9 => h9) rfl dX9_spells_32 ?_
    refine lv_aload_n hx hb dX9_spells_35 rfl (lv_at hl 5 rfl) ?_
    refine va_get (D := D) (ci := 9) (v := .int (iv 25)) (C := RX9) (T := TX9) (N := 44) hx hb hts hin9 hown hK hP 0 rfl rfl 25 (by decide) (hts (.fieldLink RX9 87 "HoneyHouseModel" "at" "I") (List.mem_of_getElem? (i := 1) rfl)) (fun _ h9 => h9) rfl dX9_spells_36 ?_
    refine tp_i (y := nI n25) (h25) ?_
    refine lv_iload hx hb dX9_spells_39 (lv_at hl 0 rfl) ?_
    refine lv_iadd hx hb dX9_spells_41 ?_
    refine tp_i (y := nI (n25 + i_4)) (nI_add n25 i_4) ?_
    refine va_iald (f := fv 0) (n := 400) hx hb hK hP 1 0 rfl rfl (vp_in_nI (n := n25 + i_4) (by omega) (by omega)) dX9_spells_42 ?_
    refine lv_topi (fun z_12 hz_13 => ?_)
    refine lv_lload_n hx hb dX9_spells_43 rfl (lv_at hl 3 rfl) ?_
    refine lv_bipush (v := 8) hx hb dX9_spells_44 (by decide) ?_
    refine lv_iload hx hb dX9_spells_46 (lv_at hl 2 rfl) ?_
    refine lv_iconst (v := 1) hx hb dX9_spells_48 (by decide) ?_
    refine lv_isub hx hb dX9_spells_49 ?_
    refine tp_i (y := nI (n - 1)) (pk_sub (a := n) (b := 1) (by omega)) ?_
    refine lv_iload hx hb dX9_spells_50 (lv_at hl 0 rfl) ?_
    refine lv_isub hx hb dX9_spells_52 ?_
    refine tp_i (y := nI ((n - 1) - i_4)) (pk_sub (a := n - 1) (b := i_4) (by omega)) ?_
    refine lv_imul hx hb dX9_spells_53 ?_
    refine tp_i (y := nI (8 * ((n - 1) - i_4))) (pk_mul 8 ((n - 1) - i_4)) ?_
    refine lv_lshr hx hb dX9_spells_54 rfl ?_
    refine lv_topl (fun z_14 _ => ?_)
    refine lv_ldc2 hx hb hown (hts (.constantLong RX9 198 (255)) (List.mem_of_getElem? (i := 3) rfl)) dX9_spells_55 ?_
    refine lv_land hx hb dX9_spells_58 ?_
    refine lv_l2i hx hb dX9_spells_59 rfl ?_
    refine lv_icmp_ne (tgt := 67) hx hb dX9_spells_60 (by decide) (fun c_15 => ?_) (fun c_15 => ?_)
    · refine lv_iconst (v := 0) hx hb dX9_spells_67 (by decide) ?_
      refine lv_istore (lv' := [(5, .int 0), (6, .int (nI i_4)), (4, .int (nI n)), (2, .long wd), (1, .int (nI ee)), (0, .ref h0)]) hx hb dX9_spells_68 hl (by decide) rfl (fun ls hl => ?_)
      refine lv_iinc (v := nI (i_4 + 1)) (lv' := [(6, .int (nI (i_4 + 1))), (5, .int 0), (4, .int (nI n)), (2, .long wd), (1, .int (nI ee)), (0, .ref h0)]) hx hb dX9_spells_70 hl (k := 1) rfl (nI_add i_4 1) (by decide) rfl (fun ls hl => ?_)
      refine lv_goto (tgt := 19) hx hb dX9_spells_73 (by decide) ?_
      exact ih_3 (i_4 + 1, 0) ls (by show n - (i_4 + 1) < n - i_4; omega) ⟨(show (i_4 + 1) ≤ n from by omega), (show 0 = 0 ∨ 0 = 1 from Or.inl rfl)⟩ (lv_sub hl [0, 1, 2, 3, 4, 5] rfl)
    refine lv_iconst (v := 1) hx hb dX9_spells_63 (by decide) ?_
    refine lv_goto (tgt := 68) hx hb dX9_spells_64 (by decide) ?_
    refine lv_istore (lv' := [(5, .int 1), (6, .int (nI i_4)), (4, .int (nI n)), (2, .long wd), (1, .int (nI ee)), (0, .ref h0)]) hx hb dX9_spells_68 hl (by decide) rfl (fun ls hl => ?_)
    refine lv_iinc (v := nI (i_4 + 1)) (lv' := [(6, .int (nI (i_4 + 1))), (5, .int 1), (4, .int (nI n)), (2, .long wd), (1, .int (nI ee)), (0, .ref h0)]) hx hb dX9_spells_70 hl (k := 1) rfl (nI_add i_4 1) (by decide) rfl (fun ls hl => ?_)
    refine lv_goto (tgt := 19) hx hb dX9_spells_73 (by decide) ?_
    exact ih_3 (i_4 + 1, 1) ls (by show n - (i_4 + 1) < n - i_4; omega) ⟨(show (i_4 + 1) ≤ n from by omega), (show 1 = 0 ∨ 1 = 1 from Or.inr rfl)⟩ (lv_sub hl [0, 1, 2, 3, 4, 5] rfl)
  have d_16 := n_ne (a := ee - n25) (b := n) (by omega) (by omega) c_1
  refine lv_iconst (v := 0) hx hb dX9_spells_11 (by decide) ?_
  exact W.zret (v := 0) hx hb hr rfl (fun t ht hW => ⟨0, rfl, Or.inl rfl, ht⟩) (fun _ h9 => by cases h9) dX9_spells_12
set_option maxHeartbeats 4000000 in
set_option maxRecDepth 100000 in
theorem m_word (l : Launch) (D : va_G) (h0 : Nat) (ad : Nat → Nat) (cs : Nat → ClassId) (iv : Nat → Int32) (fv : Nat → Nat → Int32) (gv : Nat → Int64) (n25 : Nat) (ee : Nat) (h25 : iv 25 = nI n25) (he : n25 ≤ ee ∧ ee ≤ 400) : Met l yX9_word wsX9_word ({ frames := 1, cells := 0, slots := 0, locals := 26 }) (va_Pc [.ref h0, .int (nI ee)] (fun U => va_P D vwCl (mw h0 ad cs iv fv gv) U.heap ∧ va_K D vwCl (mT cs) U)) (vp_Si (fun r => ∃ c : Nat, r = nI c ∧ ((c = 0 ∧ ee = n25 + 4) ∨ (c = 1 ∧ ee = n25 + 2) ∨ (c = 2 ∧ ee = n25 + 3) ∨ (c = 3 ∧ ee = n25 + 3) ∨ (c = 4 ∧ ee = n25 + 5) ∨ (c = 5 ∧ ee = n25 + 6) ∨ (c = 6 ∧ ee = n25 + 4) ∨ (c = 7 ∧ ee = n25 + 6) ∨ (c = 8 ∧ ee = n25 + 4) ∨ (c = 9 ∧ ee = n25 + 3) ∨ (c = 10 ∧ ee = n25 + 3) ∨ c = 11))) 0 0 (fun _ => False) := by
  refine Met.ofW (cc := cX9_word) (maxL := 2) (ret := (some .int)) (by decide) rfl ?_
  intro p e s m args below meth c s₁ B hml hv
  obtain ⟨rfl, hP, hK⟩ := hv
  have hx := B.exec
  have hb := B.bytes
  have hr := B.returns
  have hts := atoms_spec (ws := wsX9_word) B.pre
  have hown : s.vm.findClass RX9 = some m.cls := findClass_of_methodNamed B.named
  have hlocks := B.notSynchronized
  have hl := lv_entry ([.ref h0, .int (nI ee)]) (n := 2) (Nat.le_of_ble_eq_true rfl)
  rw [lg_entry_eq]
  generalize (lg_sl ([.ref h0, .int (nI ee)]) ++ List.replicate (2 - (lg_sl ([.ref h0, .int (nI ee)])).length) Slot.unset).toArray = ls at hl ⊢
  have hl : lv_has ls 2 [(0, .ref h0), (1, .int (nI ee))] := hl
  refine lv_aload_n hx hb dX9_word_0 rfl (lv_at hl 0 rfl) ?_
  refine lv_iload_n hx hb dX9_word_1 rfl (lv_at hl 1 rfl) ?_
  refine lv_ldc2 hx hb hown (hts (.constantLong RX9 200 (1718775661)) (List.mem_of_getElem? (i := 1) rfl)) dX9_word_2 ?_
  refine lv_iconst (v := 4) hx hb dX9_word_5 (by decide) ?_
  refine vp_callSi (W.runV (As := [.int (nI ee), .long 1718775661, .int 4]) (rest := []) ⟨hx, hb, hml, hown, hts⟩ (m_spells l D h0 ad cs iv fv gv n25 ee 1718775661 4 h25 (by omega) (by omega)) (cwV 3 hts gX9_word_X9_spells rfl rfl rfl (by decide +kernel) ⟨Nat.le_of_ble_eq_true rfl, Nat.le_of_ble_eq_true rfl⟩) ⟨fun a U g mk q => ⟨q.1, q.2.1, va_K.moved (u := U) (U := U.calling g mk a) (Vm.Alike.refl U.vm) q.2.2⟩, va_recv hK hP (ci := 9) (q0 := 0) rfl rfl, fun U hU hW => ⟨rfl, by rw [hU]; exact hP, va_K.moved hW.alike hK⟩⟩ rfl rfl hl.1 rfl (lv_room (Nat.le_of_ble_eq_true rfl)) dX9_word_6 ⟨Nat.le_of_ble_eq_true rfl, Nat.le_of_ble_eq_true rfl⟩) (fun r_1 k_2 => ?_)
  rcases k_2 with rfl | ⟨rfl, es_3⟩
  · refine lv_if_eq (tgt := 14) hx hb dX9_word_9 (by decide) (fun c_4 => ?_) (fun c_4 => absurd (by decide) c_4)
    refine lv_aload_n hx hb dX9_word_14 rfl (lv_at hl 0 rfl) ?_
    refine lv_iload_n hx hb dX9_word_15 rfl (lv_at hl 1 rfl) ?_
    refine lv_ldc2 hx hb hown (hts (.constantLong RX9 206 (28530)) (List.mem_of_getElem? (i := 2) rfl)) dX9_word_16 ?_
    refine lv_iconst (v := 2) hx hb dX9_word_19 (by decide) ?_
    refine vp_callSi (W.runV (As := [.int (nI ee), .long 28530, .int 2]) (rest := []) ⟨hx, hb, hml, hown, hts⟩ (m_spells l D h0 ad cs iv fv gv n25 ee 28530 2 h25 (by omega) (by omega)) (cwV 3 hts gX9_word_X9_spells rfl rfl rfl (by decide +kernel) ⟨Nat.le_of_ble_eq_true rfl, Nat.le_of_ble_eq_true rfl⟩) ⟨fun a U g mk q => ⟨q.1, q.2.1, va_K.moved (u := U) (U := U.calling g mk a) (Vm.Alike.refl U.vm) q.2.2⟩, va_recv hK hP (ci := 9) (q0 := 0) rfl rfl, fun U hU hW => ⟨rfl, by rw [hU]; exact hP, va_K.moved hW.alike hK⟩⟩ rfl rfl hl.1 rfl (lv_room (Nat.le_of_ble_eq_true rfl)) dX9_word_20 ⟨Nat.le_of_ble_eq_true rfl, Nat.le_of_ble_eq_true rfl⟩) (fun r_5 k_6 => ?_)
    rcases k_6 with rfl | ⟨rfl, es_7⟩
    · refine lv_if_eq (tgt := 28) hx hb dX9_word_23 (by decide) (fun c_8 => ?_) (fun c_8 => absurd (by decide) c_8)
      refine lv_aload_n hx hb dX9_word_28 rfl (lv_at hl 0 rfl) ?_
      refine lv_iload_n hx hb dX9_word_29 rfl (lv_at hl 1 rfl) ?_
      refine lv_ldc2 hx hb hown (hts (.constantLong RX9 208 (6385252)) (List.mem_of_getElem? (i := 3) rfl)) dX9_word_30 ?_
      refine lv_iconst (v := 3) hx hb dX9_word_33 (by decide) ?_
      refine vp_callSi (W.runV (As := [.int (nI ee), .long 6385252, .int 3]) (rest := []) ⟨hx, hb, hml, hown, hts⟩ (m_spells l D h0 ad cs iv fv gv n25 ee 6385252 3 h25 (by omega) (by omega)) (cwV 3 hts gX9_word_X9_spells rfl rfl rfl (by decide +kernel) ⟨Nat.le_of_ble_eq_true rfl, Nat.le_of_ble_eq_true rfl⟩) ⟨fun a U g mk q => ⟨q.1, q.2.1, va_K.moved (u := U) (U := U.calling g mk a) (Vm.Alike.refl U.vm) q.2.2⟩, va_recv hK hP (ci := 9) (q0 := 0) rfl rfl, fun U hU hW => ⟨rfl, by rw [hU]; exact hP, va_K.moved hW.alike hK⟩⟩ rfl rfl hl.1 rfl (lv_room (Nat.le_of_ble_eq_true rfl)) dX9_word_34 ⟨Nat.le_of_ble_eq_true rfl, Nat.le_of_ble_eq_true rfl⟩) (fun r_9 k_10 => ?_)
      rcases k_10 with rfl | ⟨rfl, es_11⟩
      · refine lv_if_eq (tgt := 42) hx hb dX9_word_37 (by decide) (fun c_12 => ?_) (fun c_12 => absurd (by decide) c_12)
        refine lv_aload_n hx hb dX9_word_42 rfl (lv_at hl 0 rfl) ?_
        refine lv_iload_n hx hb dX9_word_43 rfl (lv_at hl 1 rfl) ?_
        refine lv_ldc2 hx hb hown (hts (.constantLong RX9 210 (7237492)) (List.mem_of_getElem? (i := 4) rfl)) dX9_word_44 ?_
        refine lv_iconst (v := 3) hx hb dX9_word_47 (by decide) ?_
        refine vp_callSi (W.runV (As := [.int (nI ee), .long 7237492, .int 3]) (rest := []) ⟨hx, hb, hml, hown, hts⟩ (m_spells l D h0 ad cs iv fv gv n25 ee 7237492 3 h25 (by omega) (by omega)) (cwV 3 hts gX9_word_X9_spells rfl rfl rfl (by decide +kernel) ⟨Nat.le_of_ble_eq_true rfl, Nat.le_of_ble_eq_true rfl⟩) ⟨fun a U g mk q => ⟨q.1, q.2.1, va_K.moved (u := U) (U := U.calling g mk a) (Vm.Alike.refl U.vm) q.2.2⟩, va_recv hK hP (ci := 9) (q0 := 0) rfl rfl, fun U hU hW => ⟨rfl, by rw [hU]; exact hP, va_K.moved hW.alike hK⟩⟩ rfl rfl hl.1 rfl (lv_room (Nat.le_of_ble_eq_true rfl)) dX9_word_48 ⟨Nat.le_of_ble_eq_true rfl, Nat.le_of_ble_eq_true rfl⟩) (fun r_13 k_14 => ?_)
        rcases k_14 with rfl | ⟨rfl, es_15⟩
        · refine lv_if_eq (tgt := 56) hx hb dX9_word_51 (by decide) (fun c_16 => ?_) (fun c_16 => absurd (by decide) c_16)
          refine lv_aload_n hx hb dX9_word_56 rfl (lv_at hl 0 rfl) ?_
          refine lv_iload_n hx hb dX9_word_57 rfl (lv_at hl 1 rfl) ?_
          refine lv_ldc2 hx hb hown (hts (.constantLong RX9 212 (512736126322)) (List.mem_of_getElem? (i := 5) rfl)) dX9_word_58 ?_
          refine lv_iconst (v := 5) hx hb dX9_word_61 (by decide) ?_
          refine vp_callSi (W.runV (As := [.int (nI ee), .long 512736126322, .int 5]) (rest := []) ⟨hx, hb, hml, hown, hts⟩ (m_spells l D h0 ad cs iv fv gv n25 ee 512736126322 5 h25 (by omega) (by omega)) (cwV 3 hts gX9_word_X9_spells rfl rfl rfl (by decide +kernel) ⟨Nat.le_of_ble_eq_true rfl, Nat.le_of_ble_eq_true rfl⟩) ⟨fun a U g mk q => ⟨q.1, q.2.1, va_K.moved (u := U) (U := U.calling g mk a) (Vm.Alike.refl U.vm) q.2.2⟩, va_recv hK hP (ci := 9) (q0 := 0) rfl rfl, fun U hU hW => ⟨rfl, by rw [hU]; exact hP, va_K.moved hW.alike hK⟩⟩ rfl rfl hl.1 rfl (lv_room (Nat.le_of_ble_eq_true rfl)) dX9_word_62 ⟨Nat.le_of_ble_eq_true rfl, Nat.le_of_ble_eq_true rfl⟩) (fun r_17 k_18 => ?_)
          rcases k_18 with rfl | ⟨rfl, es_19⟩
          · refine lv_if_eq (tgt := 70) hx hb dX9_word_65 (by decide) (fun c_20 => ?_) (fun c_20 => absurd (by decide) c_20)
            refine lv_aload_n hx hb dX9_word_70 rfl (lv_at hl 0 rfl) ?_
            refine lv_iload_n hx hb dX9_word_71 rfl (lv_at hl 1 rfl) ?_
            refine lv_ldc2 hx hb hown (hts (.constantLong RX9 214 (109330211763570)) (List.mem_of_getElem? (i := 6) rfl)) dX9_word_72 ?_
            refine lv_bipush (v := 6) hx hb dX9_word_75 (by decide) ?_
            refine vp_callSi (W.runV (As := [.int (nI ee), .long 109330211763570, .int 6]) (rest := []) ⟨hx, hb, hml, hown, hts⟩ (m_spells l D h0 ad cs iv fv gv n25 ee 109330211763570 6 h25 (by omega) (by omega)) (cwV 3 hts gX9_word_X9_spells rfl rfl rfl (by decide +kernel) ⟨Nat.le_of_ble_eq_true rfl, Nat.le_of_ble_eq_true rfl⟩) ⟨fun a U g mk q => ⟨q.1, q.2.1, va_K.moved (u := U) (U := U.calling g mk a) (Vm.Alike.refl U.vm) q.2.2⟩, va_recv hK hP (ci := 9) (q0 := 0) rfl rfl, fun U hU hW => ⟨rfl, by rw [hU]; exact hP, va_K.moved hW.alike hK⟩⟩ rfl rfl hl.1 rfl (lv_room (Nat.le_of_ble_eq_true rfl)) dX9_word_77 ⟨Nat.le_of_ble_eq_true rfl, Nat.le_of_ble_eq_true rfl⟩) (fun r_21 k_22 => ?_)
            rcases k_22 with rfl | ⟨rfl, es_23⟩
            · refine lv_if_eq (tgt := 85) hx hb dX9_word_80 (by decide) (fun c_24 => ?_) (fun c_24 => absurd (by decide) c_24)
              refine lv_aload_n hx hb dX9_word_85 rfl (lv_at hl 0 rfl) ?_
              refine lv_iload_n hx hb dX9_word_86 rfl (lv_at hl 1 rfl) ?_
              refine lv_ldc2 hx hb hown (hts (.constantLong RX9 216 (1751474548)) (List.mem_of_getElem? (i := 7) rfl)) dX9_word_87 ?_
              refine lv_iconst (v := 4) hx hb dX9_word_90 (by decide) ?_
              refine vp_callSi (W.runV (As := [.int (nI ee), .long 1751474548, .int 4]) (rest := []) ⟨hx, hb, hml, hown, hts⟩ (m_spells l D h0 ad cs iv fv gv n25 ee 1751474548 4 h25 (by omega) (by omega)) (cwV 3 hts gX9_word_X9_spells rfl rfl rfl (by decide +kernel) ⟨Nat.le_of_ble_eq_true rfl, Nat.le_of_ble_eq_true rfl⟩) ⟨fun a U g mk q => ⟨q.1, q.2.1, va_K.moved (u := U) (U := U.calling g mk a) (Vm.Alike.refl U.vm) q.2.2⟩, va_recv hK hP (ci := 9) (q0 := 0) rfl rfl, fun U hU hW => ⟨rfl, by rw [hU]; exact hP, va_K.moved hW.alike hK⟩⟩ rfl rfl hl.1 rfl (lv_room (Nat.le_of_ble_eq_true rfl)) dX9_word_91 ⟨Nat.le_of_ble_eq_true rfl, Nat.le_of_ble_eq_true rfl⟩) (fun r_25 k_26 => ?_)
              rcases k_26 with rfl | ⟨rfl, es_27⟩
              · refine lv_if_eq (tgt := 100) hx hb dX9_word_94 (by decide) (fun c_28 => ?_) (fun c_28 => absurd (by decide) c_28)
                refine lv_aload_n hx hb dX9_word_100 rfl (lv_at hl 0 rfl) ?_
                refine lv_iload_n hx hb dX9_word_101 rfl (lv_at hl 1 rfl) ?_
                refine lv_ldc2 hx hb hown (hts (.constantLong RX9 218 (123623862723950)) (List.mem_of_getElem? (i := 8) rfl)) dX9_word_102 ?_
                refine lv_bipush (v := 6) hx hb dX9_word_105 (by decide) ?_
                refine vp_callSi (W.runV (As := [.int (nI ee), .long 123623862723950, .int 6]) (rest := []) ⟨hx, hb, hml, hown, hts⟩ (m_spells l D h0 ad cs iv fv gv n25 ee 123623862723950 6 h25 (by omega) (by omega)) (cwV 3 hts gX9_word_X9_spells rfl rfl rfl (by decide +kernel) ⟨Nat.le_of_ble_eq_true rfl, Nat.le_of_ble_eq_true rfl⟩) ⟨fun a U g mk q => ⟨q.1, q.2.1, va_K.moved (u := U) (U := U.calling g mk a) (Vm.Alike.refl U.vm) q.2.2⟩, va_recv hK hP (ci := 9) (q0 := 0) rfl rfl, fun U hU hW => ⟨rfl, by rw [hU]; exact hP, va_K.moved hW.alike hK⟩⟩ rfl rfl hl.1 rfl (lv_room (Nat.le_of_ble_eq_true rfl)) dX9_word_107 ⟨Nat.le_of_ble_eq_true rfl, Nat.le_of_ble_eq_true rfl⟩) (fun r_29 k_30 => ?_)
                rcases k_30 with rfl | ⟨rfl, es_31⟩
                · refine lv_if_eq (tgt := 116) hx hb dX9_word_110 (by decide) (fun c_32 => ?_) (fun c_32 => absurd (by decide) c_32)
                  refine lv_aload_n hx hb dX9_word_116 rfl (lv_at hl 0 rfl) ?_
                  refine lv_iload_n hx hb dX9_word_117 rfl (lv_at hl 1 rfl) ?_
                  refine lv_ldc2 hx hb hown (hts (.constantLong RX9 220 (1818324580)) (List.mem_of_getElem? (i := 9) rfl)) dX9_word_118 ?_
                  refine lv_iconst (v := 4) hx hb dX9_word_121 (by decide) ?_
                  refine vp_callSi (W.runV (As := [.int (nI ee), .long 1818324580, .int 4]) (rest := []) ⟨hx, hb, hml, hown, hts⟩ (m_spells l D h0 ad cs iv fv gv n25 ee 1818324580 4 h25 (by omega) (by omega)) (cwV 3 hts gX9_word_X9_spells rfl rfl rfl (by decide +kernel) ⟨Nat.le_of_ble_eq_true rfl, Nat.le_of_ble_eq_true rfl⟩) ⟨fun a U g mk q => ⟨q.1, q.2.1, va_K.moved (u := U) (U := U.calling g mk a) (Vm.Alike.refl U.vm) q.2.2⟩, va_recv hK hP (ci := 9) (q0 := 0) rfl rfl, fun U hU hW => ⟨rfl, by rw [hU]; exact hP, va_K.moved hW.alike hK⟩⟩ rfl rfl hl.1 rfl (lv_room (Nat.le_of_ble_eq_true rfl)) dX9_word_122 ⟨Nat.le_of_ble_eq_true rfl, Nat.le_of_ble_eq_true rfl⟩) (fun r_33 k_34 => ?_)
                  rcases k_34 with rfl | ⟨rfl, es_35⟩
                  · refine lv_if_eq (tgt := 131) hx hb dX9_word_125 (by decide) (fun c_36 => ?_) (fun c_36 => absurd (by decide) c_36)
                    refine lv_aload_n hx hb dX9_word_131 rfl (lv_at hl 0 rfl) ?_
                    refine lv_iload_n hx hb dX9_word_132 rfl (lv_at hl 1 rfl) ?_
                    refine lv_ldc2 hx hb hown (hts (.constantLong RX9 222 (7170414)) (List.mem_of_getElem? (i := 10) rfl)) dX9_word_133 ?_
                    refine lv_iconst (v := 3) hx hb dX9_word_136 (by decide) ?_
                    refine vp_callSi (W.runV (As := [.int (nI ee), .long 7170414, .int 3]) (rest := []) ⟨hx, hb, hml, hown, hts⟩ (m_spells l D h0 ad cs iv fv gv n25 ee 7170414 3 h25 (by omega) (by omega)) (cwV 3 hts gX9_word_X9_spells rfl rfl rfl (by decide +kernel) ⟨Nat.le_of_ble_eq_true rfl, Nat.le_of_ble_eq_true rfl⟩) ⟨fun a U g mk q => ⟨q.1, q.2.1, va_K.moved (u := U) (U := U.calling g mk a) (Vm.Alike.refl U.vm) q.2.2⟩, va_recv hK hP (ci := 9) (q0 := 0) rfl rfl, fun U hU hW => ⟨rfl, by rw [hU]; exact hP, va_K.moved hW.alike hK⟩⟩ rfl rfl hl.1 rfl (lv_room (Nat.le_of_ble_eq_true rfl)) dX9_word_137 ⟨Nat.le_of_ble_eq_true rfl, Nat.le_of_ble_eq_true rfl⟩) (fun r_37 k_38 => ?_)
                    rcases k_38 with rfl | ⟨rfl, es_39⟩
                    · refine lv_if_eq (tgt := 146) hx hb dX9_word_140 (by decide) (fun c_40 => ?_) (fun c_40 => absurd (by decide) c_40)
                      refine lv_aload_n hx hb dX9_word_146 rfl (lv_at hl 0 rfl) ?_
                      refine lv_iload_n hx hb dX9_word_147 rfl (lv_at hl 1 rfl) ?_
                      refine lv_ldc2 hx hb hown (hts (.constantLong RX9 224 (7168376)) (List.mem_of_getElem? (i := 11) rfl)) dX9_word_148 ?_
                      refine lv_iconst (v := 3) hx hb dX9_word_151 (by decide) ?_
                      refine vp_callSi (W.runV (As := [.int (nI ee), .long 7168376, .int 3]) (rest := []) ⟨hx, hb, hml, hown, hts⟩ (m_spells l D h0 ad cs iv fv gv n25 ee 7168376 3 h25 (by omega) (by omega)) (cwV 3 hts gX9_word_X9_spells rfl rfl rfl (by decide +kernel) ⟨Nat.le_of_ble_eq_true rfl, Nat.le_of_ble_eq_true rfl⟩) ⟨fun a U g mk q => ⟨q.1, q.2.1, va_K.moved (u := U) (U := U.calling g mk a) (Vm.Alike.refl U.vm) q.2.2⟩, va_recv hK hP (ci := 9) (q0 := 0) rfl rfl, fun U hU hW => ⟨rfl, by rw [hU]; exact hP, va_K.moved hW.alike hK⟩⟩ rfl rfl hl.1 rfl (lv_room (Nat.le_of_ble_eq_true rfl)) dX9_word_152 ⟨Nat.le_of_ble_eq_true rfl, Nat.le_of_ble_eq_true rfl⟩) (fun r_41 k_42 => ?_)
                      rcases k_42 with rfl | ⟨rfl, es_43⟩
                      · refine lv_if_eq (tgt := 161) hx hb dX9_word_155 (by decide) (fun c_44 => ?_) (fun c_44 => absurd (by decide) c_44)
                        refine lv_bipush (v := 11) hx hb dX9_word_161 (by decide) ?_
                        exact W.iret (v := 11) hx hb hr (fun t ht hW => ⟨11, rfl, ⟨11, rfl, by omega⟩, ht⟩) (fun _ h9 => by cases h9) dX9_word_163
                      refine lv_if_eq (tgt := 161) hx hb dX9_word_155 (by decide) (fun c_45 => absurd c_45 (by decide)) (fun c_45 => ?_)
                      refine lv_bipush (v := 10) hx hb dX9_word_158 (by decide) ?_
                      exact W.iret (v := 10) hx hb hr (fun t ht hW => ⟨10, rfl, ⟨10, rfl, by omega⟩, ht⟩) (fun _ h9 => by cases h9) dX9_word_160
                    refine lv_if_eq (tgt := 146) hx hb dX9_word_140 (by decide) (fun c_46 => absurd c_46 (by decide)) (fun c_46 => ?_)
                    refine lv_bipush (v := 9) hx hb dX9_word_143 (by decide) ?_
                    exact W.iret (v := 9) hx hb hr (fun t ht hW => ⟨9, rfl, ⟨9, rfl, by omega⟩, ht⟩) (fun _ h9 => by cases h9) dX9_word_145
                  refine lv_if_eq (tgt := 131) hx hb dX9_word_125 (by decide) (fun c_47 => absurd c_47 (by decide)) (fun c_47 => ?_)
                  refine lv_bipush (v := 8) hx hb dX9_word_128 (by decide) ?_
                  exact W.iret (v := 8) hx hb hr (fun t ht hW => ⟨8, rfl, ⟨8, rfl, by omega⟩, ht⟩) (fun _ h9 => by cases h9) dX9_word_130
                refine lv_if_eq (tgt := 116) hx hb dX9_word_110 (by decide) (fun c_48 => absurd c_48 (by decide)) (fun c_48 => ?_)
                refine lv_bipush (v := 7) hx hb dX9_word_113 (by decide) ?_
                exact W.iret (v := 7) hx hb hr (fun t ht hW => ⟨7, rfl, ⟨7, rfl, by omega⟩, ht⟩) (fun _ h9 => by cases h9) dX9_word_115
              refine lv_if_eq (tgt := 100) hx hb dX9_word_94 (by decide) (fun c_49 => absurd c_49 (by decide)) (fun c_49 => ?_)
              refine lv_bipush (v := 6) hx hb dX9_word_97 (by decide) ?_
              exact W.iret (v := 6) hx hb hr (fun t ht hW => ⟨6, rfl, ⟨6, rfl, by omega⟩, ht⟩) (fun _ h9 => by cases h9) dX9_word_99
            refine lv_if_eq (tgt := 85) hx hb dX9_word_80 (by decide) (fun c_50 => absurd c_50 (by decide)) (fun c_50 => ?_)
            refine lv_iconst (v := 5) hx hb dX9_word_83 (by decide) ?_
            exact W.iret (v := 5) hx hb hr (fun t ht hW => ⟨5, rfl, ⟨5, rfl, by omega⟩, ht⟩) (fun _ h9 => by cases h9) dX9_word_84
          refine lv_if_eq (tgt := 70) hx hb dX9_word_65 (by decide) (fun c_51 => absurd c_51 (by decide)) (fun c_51 => ?_)
          refine lv_iconst (v := 4) hx hb dX9_word_68 (by decide) ?_
          exact W.iret (v := 4) hx hb hr (fun t ht hW => ⟨4, rfl, ⟨4, rfl, by omega⟩, ht⟩) (fun _ h9 => by cases h9) dX9_word_69
        refine lv_if_eq (tgt := 56) hx hb dX9_word_51 (by decide) (fun c_52 => absurd c_52 (by decide)) (fun c_52 => ?_)
        refine lv_iconst (v := 3) hx hb dX9_word_54 (by decide) ?_
        exact W.iret (v := 3) hx hb hr (fun t ht hW => ⟨3, rfl, ⟨3, rfl, by omega⟩, ht⟩) (fun _ h9 => by cases h9) dX9_word_55
      refine lv_if_eq (tgt := 42) hx hb dX9_word_37 (by decide) (fun c_53 => absurd c_53 (by decide)) (fun c_53 => ?_)
      refine lv_iconst (v := 2) hx hb dX9_word_40 (by decide) ?_
      exact W.iret (v := 2) hx hb hr (fun t ht hW => ⟨2, rfl, ⟨2, rfl, by omega⟩, ht⟩) (fun _ h9 => by cases h9) dX9_word_41
    refine lv_if_eq (tgt := 28) hx hb dX9_word_23 (by decide) (fun c_54 => absurd c_54 (by decide)) (fun c_54 => ?_)
    refine lv_iconst (v := 1) hx hb dX9_word_26 (by decide) ?_
    exact W.iret (v := 1) hx hb hr (fun t ht hW => ⟨1, rfl, ⟨1, rfl, by omega⟩, ht⟩) (fun _ h9 => by cases h9) dX9_word_27
  refine lv_if_eq (tgt := 14) hx hb dX9_word_9 (by decide) (fun c_55 => absurd c_55 (by decide)) (fun c_55 => ?_)
  refine lv_iconst (v := 0) hx hb dX9_word_12 (by decide) ?_
  exact W.iret (v := 0) hx hb hr (fun t ht hW => ⟨0, rfl, ⟨0, rfl, by omega⟩, ht⟩) (fun _ h9 => by cases h9) dX9_word_13
set_option maxHeartbeats 4000000 in
set_option maxRecDepth 100000 in
theorem m_peek (l : Launch) (D : va_G) (h0 : Nat) (ad : Nat → Nat) (cs : Nat → ClassId) (iv : Nat → Int32) (fv : Nat → Nat → Int32) (gv : Nat → Int64) (n25 n26 : Nat)  (sz : Nat) (h25 : iv 25 = nI n25) (h26 : iv 26 = nI n26) (b25 : n25 ≤ n26) (b26 : n26 ≤ 400) : Met l yX9_peek wsX9_peek ({ frames := 2, cells := 0, slots := 0, locals := 47 }) (va_Pc [.ref h0] (fun U => U.heap.size = sz ∧ va_P D vwCl (mw h0 ad cs iv fv gv) U.heap ∧ va_K D vwCl (mT cs) U ∧ va_D (fun _ => True) (mw h0 ad cs iv fv gv))) (va_Qi (fun (r u : Int32) => r = u) (fun (r : Int32) (t : State) => ∃ (k25 : Nat), (n25 ≤ k25) ∧ (k25 ≤ n26) ∧ ((n25 = n26 ∨ ¬ blk (fv 0 n25)) → k25 = n25) ∧ (r = (-1) ∨ ∃ c e : Nat, r = nI c ∧ isE (fv 0) n26 k25 e ∧ ((c = 0 ∧ e = k25 + 4) ∨ (c = 1 ∧ e = k25 + 2) ∨ (c = 2 ∧ e = k25 + 3) ∨ (c = 3 ∧ e = k25 + 3) ∨ (c = 4 ∧ e = k25 + 5) ∨ (c = 5 ∧ e = k25 + 6) ∨ (c = 6 ∧ e = k25 + 4) ∨ (c = 7 ∧ e = k25 + 6) ∨ (c = 8 ∧ e = k25 + 4) ∨ (c = 9 ∧ e = k25 + 3) ∨ (c = 10 ∧ e = k25 + 3) ∨ c = 11)) ∧ va_P D vwCl (mw h0 ad cs (upd iv 25 (nI k25)) fv gv) t.heap ∧ va_K D vwCl (mT cs) t ∧ va_D (va_A (mw h0 ad cs iv fv gv) sz) (mw h0 ad cs (upd iv 25 (nI k25)) fv gv)) (va_A (mw h0 ad cs iv fv gv) sz)) 0 0 (va_A (mw h0 ad cs iv fv gv) sz) := by
  refine Met.ofW (cc := cX9_peek) (maxL := 1) (ret := (some .int)) (by decide) rfl ?_
  intro p e s m args below meth c s₁ B hml hv
  obtain ⟨rfl, hsz, hP, hK, hD0⟩ := hv
  have hx := B.exec
  have hb := B.bytes
  have hr := B.returns
  have hts := atoms_spec (ws := wsX9_peek) B.pre
  have hown : s.vm.findClass RX9 = some m.cls := findClass_of_methodNamed B.named
  have hlocks := B.notSynchronized
  subst hsz
  have hD := hD0.self (sz := s.heap.size)
  generalize hAe : va_A (mw h0 ad cs iv fv gv) s.heap.size = A at hD ⊢
  have hA : ∀ q : Nat, s.heap.size ≤ q → A q := fun q h => by rw [← hAe]; exact Or.inr h
  have hS : va_S A s.heap s.heap [] := va_S.rf
  have hl := lv_entry ([.ref h0]) (n := 1) (Nat.le_of_ble_eq_true rfl)
  rw [lg_entry_eq]
  generalize (lg_sl ([.ref h0]) ++ List.replicate (1 - (lg_sl ([.ref h0])).length) Slot.unset).toArray = ls at hl ⊢
  have hl : lv_has ls 1 [(0, .ref h0)] := hl
  refine lv_aload_n hx hb dX9_peek_0 rfl (lv_at hl 0 rfl) ?_
  have hFc := free_all hD hS hA
  refine va_calli (va_runV (As := []) (rest := []) ⟨hx, hb, hml, hown, hts⟩ (m_here l D h0 ad cs iv fv gv n25 n26  s.heap.size h25 h26 (by omega) (by omega)) (cwV 0 hts gX9_peek_X9_here rfl rfl rfl (by decide +kernel) ⟨Nat.le_of_ble_eq_true rfl, Nat.le_of_ble_eq_true rfl⟩) ⟨fun a U g mk q => by obtain ⟨q0, q1, qP, qK, qD⟩ := q; exact ⟨q0, q1, qP, va_K.moved (u := U) (U := U.calling g mk a) (Vm.Alike.refl U.vm) qK, qD⟩, va_recv hK hP (ci := 9) (q0 := 0) rfl rfl, fun U hU hW => ⟨rfl, by rw [hU], by rw [hU]; exact hP, va_K.moved hW.alike hK, hD.weaken (fun _ _ _ _ => trivial)⟩⟩ rfl rfl hl.1 rfl (lv_room (Nat.le_of_ble_eq_true rfl)) dX9_peek_1 ⟨Nat.le_of_ble_eq_true rfl, Nat.le_of_ble_eq_true rfl⟩) hS (fun q _ h => hFc q h) hFc (fun r_1 u t H1 locs ht hvm w_2 hB hz1 hk1 hS => ?_)
  subst w_2
  obtain ⟨k25_3, q_4, q_5, q_6, q_7, q_8, hP1, hK1, hD1⟩ := hB
  rw [ht] at hP1
  have hK := va_K.moved hvm.symm hK1
  generalize H1 = H at hP1 hS ⊢
  have hP : va_P D vwCl (mw h0 ad cs (upd iv 25 (nI k25_3)) fv gv) H := hP1
  have hD : va_D A (mw h0 ad cs (upd iv 25 (nI k25_3)) fv gv) := hD1.weaken (fun _ _ _ h => hFc _ h)
  refine vp_callSi (W.runS (As := [.int r_1]) (rest := []) ⟨hx, hb, hml, hown, hts⟩ (s_X9_isLetter l r_1) (va_cwS 1 hts gX9_peek_X9_isLetter rfl rfl rfl (by decide +kernel) ⟨Nat.le_of_ble_eq_true rfl, Nat.le_of_ble_eq_true rfl⟩) ⟨fun a U g mk q => q, fun U hU hW => ⟨rfl, trivial⟩⟩ rfl rfl hl.1 rfl (lv_room (Nat.le_of_ble_eq_true rfl)) dX9_peek_4 ⟨Nat.le_of_ble_eq_true rfl, Nat.le_of_ble_eq_true rfl⟩) (fun r_9 k_10 => ?_)
  rcases k_10 with ⟨rfl, lt_11⟩ | ⟨rfl, lt_11⟩
  · refine lv_if_eq (tgt := 21) hx hb dX9_peek_7 (by decide) (fun c_12 => ?_) (fun c_12 => absurd (by decide) c_12)
    refine lv_iconst (v := (-1)) hx hb dX9_peek_21 (by decide) ?_
    have hP : va_P D vwCl (mw h0 ad cs (upd iv 25 (nI k25_3)) fv gv) H := hP
    have hD : va_D A (mw h0 ad cs (upd iv 25 (nI k25_3)) fv gv) := hD
    exact W.iret (v := (-1)) hx hb hr (fun t ht hW => ⟨⟨(-1), (-1), rfl, rfl, k25_3, by omega, by omega, q_7, Or.inl rfl, by rw [ht]; exact hP, va_K.moved hW.alike hK, hD⟩, hS.F ht⟩) hS.2.2 dX9_peek_22
  refine lv_if_eq (tgt := 21) hx hb dX9_peek_7 (by decide) (fun c_13 => absurd c_13 (by decide)) (fun c_13 => ?_)
  refine lv_aload_n hx hb dX9_peek_10 rfl (lv_at hl 0 rfl) ?_
  refine lv_aload_n hx hb dX9_peek_11 rfl (lv_at hl 0 rfl) ?_
  refine vp_callSi (W.runV (As := []) (rest := [.ref h0]) ⟨hx, hb, hml, hown, hts⟩ (m_wordEnd l D h0 ad cs (upd iv 25 (nI k25_3)) fv gv k25_3 n26  rfl h26 (by omega) (by omega)) (cwV 0 hts gX9_peek_X9_wordEnd rfl rfl rfl (by decide +kernel) ⟨Nat.le_of_ble_eq_true rfl, Nat.le_of_ble_eq_true rfl⟩) ⟨fun a U g mk q => ⟨q.1, q.2.1, va_K.moved (u := U) (U := U.calling g mk a) (Vm.Alike.refl U.vm) q.2.2⟩, va_recv hK hP (ci := 9) (q0 := 0) rfl rfl, fun U hU hW => ⟨rfl, by rw [hU]; exact hP, va_K.moved hW.alike hK⟩⟩ rfl rfl hl.1 rfl (lv_room (Nat.le_of_ble_eq_true rfl)) dX9_peek_12 ⟨Nat.le_of_ble_eq_true rfl, Nat.le_of_ble_eq_true rfl⟩) (fun r_14 k_15 => ?_)
  obtain ⟨e_16, rfl, he_17⟩ := k_15
  have he_17b : k25_3 ≤ e_16 ∧ e_16 ≤ n26 := ⟨he_17.1, he_17.2.1⟩
  refine vp_callSi (W.runV (As := [.int (nI e_16)]) (rest := []) ⟨hx, hb, hml, hown, hts⟩ (m_word l D h0 ad cs (upd iv 25 (nI k25_3)) fv gv k25_3 e_16 rfl (by omega)) (cwV 1 hts gX9_peek_X9_word rfl rfl rfl (by decide +kernel) ⟨Nat.le_of_ble_eq_true rfl, Nat.le_of_ble_eq_true rfl⟩) ⟨fun a U g mk q => ⟨q.1, q.2.1, va_K.moved (u := U) (U := U.calling g mk a) (Vm.Alike.refl U.vm) q.2.2⟩, va_recv hK hP (ci := 9) (q0 := 0) rfl rfl, fun U hU hW => ⟨rfl, by rw [hU]; exact hP, va_K.moved hW.alike hK⟩⟩ rfl rfl hl.1 rfl (lv_room (Nat.le_of_ble_eq_true rfl)) dX9_peek_15 ⟨Nat.le_of_ble_eq_true rfl, Nat.le_of_ble_eq_true rfl⟩) (fun r_18 k_19 => ?_)
  obtain ⟨c_20, rfl, hc_21⟩ := k_19
  refine lv_goto (tgt := 22) hx hb dX9_peek_18 (by decide) ?_
  have hP : va_P D vwCl (mw h0 ad cs (upd iv 25 (nI k25_3)) fv gv) H := hP
  have hD : va_D A (mw h0 ad cs (upd iv 25 (nI k25_3)) fv gv) := hD
  exact W.iret (v := nI c_20) hx hb hr (fun t ht hW => ⟨⟨nI c_20, nI c_20, rfl, rfl, k25_3, by omega, by omega, q_7, Or.inr ⟨c_20, e_16, rfl, he_17, hc_21⟩, by rw [ht]; exact hP, va_K.moved hW.alike hK, hD⟩, hS.F ht⟩) hS.2.2 dX9_peek_22
set_option maxHeartbeats 4000000 in
set_option maxRecDepth 100000 in
theorem m_must (l : Launch) (D : va_G) (h0 : Nat) (ad : Nat → Nat) (cs : Nat → ClassId) (iv : Nat → Int32) (fv : Nat → Nat → Int32) (gv : Nat → Int64) (n21 n25 n26 : Nat) (a1 : Int32) (sz : Nat) (h21 : iv 21 = nI n21) (h25 : iv 25 = nI n25) (h26 : iv 26 = nI n26) (b21 : n21 ≤ 3) (b25 : n25 ≤ n26) (b26 : n26 ≤ 400) (hc : ¬ a1 = (-1)) : Met l yX9_must wsX9_must ({ frames := 1, cells := 0, slots := 0, locals := 22 }) (va_Pc [.ref h0, .int a1] (fun U => U.heap.size = sz ∧ va_P D vwCl (mw h0 ad cs iv fv gv) U.heap ∧ va_K D vwCl (mT cs) U ∧ va_D (fun _ => True) (mw h0 ad cs iv fv gv))) (va_Qv (fun _ : Unit => True) (fun (_ : Unit) (t : State) => ∃ (k21 : Nat) (p22 : Int32) (k25 : Nat), (k21 ≤ 3) ∧ (n25 ≤ k25 ∧ k25 ≤ 401) ∧ (1 ≤ k21 ∨ k25 ≤ n26) ∧ va_P D vwCl (mw h0 ad cs (upd (upd (upd iv 21 (nI k21)) 22 p22) 25 (nI k25)) fv gv) t.heap ∧ va_K D vwCl (mT cs) t ∧ va_D (va_A (mw h0 ad cs iv fv gv) sz) (mw h0 ad cs (upd (upd (upd iv 21 (nI k21)) 22 p22) 25 (nI k25)) fv gv)) (va_A (mw h0 ad cs iv fv gv) sz)) 0 0 (va_A (mw h0 ad cs iv fv gv) sz) := by
  refine Met.ofW (cc := cX9_must) (maxL := 2) (ret := none) (by decide) rfl ?_
  intro p e s m args below meth c s₁ B hml hv
  obtain ⟨rfl, hsz, hP, hK, hD0⟩ := hv
  have hx := B.exec
  have hb := B.bytes
  have hr := B.returns
  have hts := atoms_spec (ws := wsX9_must) B.pre
  have hown : s.vm.findClass RX9 = some m.cls := findClass_of_methodNamed B.named
  have hlocks := B.notSynchronized
  subst hsz
  have hD := hD0.self (sz := s.heap.size)
  generalize hAe : va_A (mw h0 ad cs iv fv gv) s.heap.size = A at hD ⊢
  have hA : ∀ q : Nat, s.heap.size ≤ q → A q := fun q h => by rw [← hAe]; exact Or.inr h
  have hS : va_S A s.heap s.heap [] := va_S.rf
  have hin9 : ∀ w ∈ u_ws RX9 TX9 44, w ∈ wsX9_must := (fun _ h9 => List.mem_cons_of_mem _ ((List.mem_append_right _ h9)))
  have hl := lv_entry ([.ref h0, .int a1]) (n := 2) (Nat.le_of_ble_eq_true rfl)
  rw [lg_entry_eq]
  generalize (lg_sl ([.ref h0, .int a1]) ++ List.replicate (2 - (lg_sl ([.ref h0, .int a1])).length) Slot.unset).toArray = ls at hl ⊢
  have hl : lv_has ls 2 [(0, .ref h0), (1, .int a1)] := hl
  refine lv_aload_n hx hb dX9_must_0 rfl (lv_at hl 0 rfl) ?_
  have hFc := free_all hD hS hA
  refine va_calli (va_runV (As := []) (rest := []) ⟨hx, hb, hml, hown, hts⟩ (m_here l D h0 ad cs iv fv gv n25 n26  s.heap.size h25 h26 (by omega) (by omega)) (cwV 0 hts gX9_must_X9_here rfl rfl rfl (by decide +kernel) ⟨Nat.le_of_ble_eq_true rfl, Nat.le_of_ble_eq_true rfl⟩) ⟨fun a U g mk q => by obtain ⟨q0, q1, qP, qK, qD⟩ := q; exact ⟨q0, q1, qP, va_K.moved (u := U) (U := U.calling g mk a) (Vm.Alike.refl U.vm) qK, qD⟩, va_recv hK hP (ci := 9) (q0 := 0) rfl rfl, fun U hU hW => ⟨rfl, by rw [hU], by rw [hU]; exact hP, va_K.moved hW.alike hK, hD.weaken (fun _ _ _ _ => trivial)⟩⟩ rfl rfl hl.1 rfl (lv_room (Nat.le_of_ble_eq_true rfl)) dX9_must_1 ⟨Nat.le_of_ble_eq_true rfl, Nat.le_of_ble_eq_true rfl⟩) hS (fun q _ h => hFc q h) hFc (fun r_1 u t H1 locs ht hvm w_2 hB hz1 hk1 hS => ?_)
  subst w_2
  obtain ⟨k25_3, q_4, q_5, q_6, q_7, q_8, hP1, hK1, hD1⟩ := hB
  rw [ht] at hP1
  have hK := va_K.moved hvm.symm hK1
  generalize H1 = H at hP1 hS ⊢
  have hP : va_P D vwCl (mw h0 ad cs (upd iv 25 (nI k25_3)) fv gv) H := hP1
  have hD : va_D A (mw h0 ad cs (upd iv 25 (nI k25_3)) fv gv) := hD1.weaken (fun _ _ _ h => hFc _ h)
  refine lv_iload_n hx hb dX9_must_4 rfl (lv_at hl 1 rfl) ?_
  refine lv_icmp_eq (tgt := 17) hx hb dX9_must_5 (by decide) (fun c_9 => ?_) (fun c_9 => ?_)
  · refine lv_aload_n hx hb dX9_must_17 rfl (lv_at hl 0 rfl) ?_
    refine lv_dup hx hb dX9_must_18 rfl ?_
    refine va_get (D := D) (ci := 9) (v := .int (nI k25_3)) (C := RX9) (T := TX9) (N := 44) hx hb hts hin9 hown hK hP 0 rfl rfl 25 (by decide) (hts (.fieldLink RX9 87 "HoneyHouseModel" "at" "I") (List.mem_of_getElem? (i := 1) rfl)) (fun _ h9 => h9) rfl dX9_must_19 ?_
    refine lv_iconst (v := 1) hx hb dX9_must_22 (by decide) ?_
    refine lv_iadd hx hb dX9_must_23 ?_
    refine tp_i (y := nI (k25_3 + 1)) (nI_add k25_3 1) ?_
    refine va_put (D := D) (ci := 9) (v := .int (nI (k25_3 + 1))) (ty := .int) (C := RX9) (T := TX9) (N := 44) hx hb hts hin9 tyX9 tyX9_ok nmX9 hown hK hP hD hS 0 rfl rfl 25 (by decide) (hts (.fieldLink RX9 87 "HoneyHouseModel" "at" "I") (List.mem_of_getElem? (i := 1) rfl)) (fun _ h9 => h9) rfl (tyX9_ok 25 (by decide)) rfl rfl (Nat.le_of_ble_eq_true rfl) dX9_must_24 (fun H locs hP hD hS => ?_)
    have hP : va_P D vwCl (mw h0 ad cs (upd iv 25 (nI (k25_3 + 1))) fv gv) H := hP
    have hD : va_D A (mw h0 ad cs (upd iv 25 (nI (k25_3 + 1))) fv gv) := hD
    have hP : va_P D vwCl (mw h0 ad cs (upd (upd (upd iv 21 (iv 21)) 22 (iv 22)) 25 (nI (k25_3 + 1))) fv gv) H := hP
    have hD : va_D A (mw h0 ad cs (upd (upd (upd iv 21 (iv 21)) 22 (iv 22)) 25 (nI (k25_3 + 1))) fv gv) := hD
    have hP := hP
    rw [h21] at hP hD
    exact W.vret hx hb hr (fun t ht hW => ⟨⟨(), rfl, trivial, n21, iv 22, k25_3 + 1, by omega, by omega, Or.inr (q_8.elim (fun h9 => absurd (c_9.symm.trans h9.1) hc) (fun h9 => by omega)), by rw [ht]; exact hP, va_K.moved hW.alike hK, hD⟩, hS.F ht⟩) hS.2.2 dX9_must_27
  refine lv_aload_n hx hb dX9_must_8 rfl (lv_at hl 0 rfl) ?_
  refine lv_iconst (v := 1) hx hb dX9_must_9 (by decide) ?_
  refine lv_aload_n hx hb dX9_must_10 rfl (lv_at hl 0 rfl) ?_
  refine va_get (D := D) (ci := 9) (v := .int (nI k25_3)) (C := RX9) (T := TX9) (N := 44) hx hb hts hin9 hown hK hP 0 rfl rfl 25 (by decide) (hts (.fieldLink RX9 87 "HoneyHouseModel" "at" "I") (List.mem_of_getElem? (i := 1) rfl)) (fun _ h9 => h9) rfl dX9_must_11 ?_
  have hFc := free_all hD hS hA
  refine va_callv (va_runV (As := [.int 1, .int (nI k25_3)]) (rest := []) ⟨hx, hb, hml, hown, hts⟩ (m_blame l D h0 ad cs (upd iv 25 (nI k25_3)) fv gv n21 1 (nI k25_3) H.size h21 (by omega) (by omega)) (cwV 2 hts gX9_must_X9_blame rfl rfl rfl (by decide +kernel) ⟨Nat.le_of_ble_eq_true rfl, Nat.le_of_ble_eq_true rfl⟩) ⟨fun a U g mk q => by obtain ⟨q0, q1, qP, qK, qD⟩ := q; exact ⟨q0, q1, qP, va_K.moved (u := U) (U := U.calling g mk a) (Vm.Alike.refl U.vm) qK, qD⟩, va_recv hK hP (ci := 9) (q0 := 0) rfl rfl, fun U hU hW => ⟨rfl, by rw [hU], by rw [hU]; exact hP, va_K.moved hW.alike hK, hD.weaken (fun _ _ _ _ => trivial)⟩⟩ rfl rfl hl.1 rfl (lv_room (Nat.le_of_ble_eq_true rfl)) dX9_must_14 ⟨Nat.le_of_ble_eq_true rfl, Nat.le_of_ble_eq_true rfl⟩) hS (fun q _ h => hFc q h) hFc (fun u t H1 locs ht hvm w_11 hB hz1 hk1 hS => ?_)
  obtain ⟨k21_12, p22_13, q_14, q_15, hP1, hK1, hD1⟩ := hB
  rw [ht] at hP1
  have hK := va_K.moved hvm.symm hK1
  generalize H1 = H at hP1 hS ⊢
  have hP : va_P D vwCl (mw h0 ad cs (upd (upd (upd iv 21 (nI k21_12)) 22 p22_13) 25 (nI k25_3)) fv gv) H := hP1
  have hD : va_D A (mw h0 ad cs (upd (upd (upd iv 21 (nI k21_12)) 22 p22_13) 25 (nI k25_3)) fv gv) := hD1.weaken (fun _ _ _ h => hFc _ h)
  refine lv_aload_n hx hb dX9_must_17 rfl (lv_at hl 0 rfl) ?_
  refine lv_dup hx hb dX9_must_18 rfl ?_
  refine va_get (D := D) (ci := 9) (v := .int (nI k25_3)) (C := RX9) (T := TX9) (N := 44) hx hb hts hin9 hown hK hP 0 rfl rfl 25 (by decide) (hts (.fieldLink RX9 87 "HoneyHouseModel" "at" "I") (List.mem_of_getElem? (i := 1) rfl)) (fun _ h9 => h9) rfl dX9_must_19 ?_
  refine lv_iconst (v := 1) hx hb dX9_must_22 (by decide) ?_
  refine lv_iadd hx hb dX9_must_23 ?_
  refine tp_i (y := nI (k25_3 + 1)) (nI_add k25_3 1) ?_
  refine va_put (D := D) (ci := 9) (v := .int (nI (k25_3 + 1))) (ty := .int) (C := RX9) (T := TX9) (N := 44) hx hb hts hin9 tyX9 tyX9_ok nmX9 hown hK hP hD hS 0 rfl rfl 25 (by decide) (hts (.fieldLink RX9 87 "HoneyHouseModel" "at" "I") (List.mem_of_getElem? (i := 1) rfl)) (fun _ h9 => h9) rfl (tyX9_ok 25 (by decide)) rfl rfl (Nat.le_of_ble_eq_true rfl) dX9_must_24 (fun H locs hP hD hS => ?_)
  have hP : va_P D vwCl (mw h0 ad cs (upd (upd (upd iv 21 (nI k21_12)) 22 p22_13) 25 (nI (k25_3 + 1))) fv gv) H := hP
  have hD : va_D A (mw h0 ad cs (upd (upd (upd iv 21 (nI k21_12)) 22 p22_13) 25 (nI (k25_3 + 1))) fv gv) := hD
  have hP : va_P D vwCl (mw h0 ad cs (upd (upd (upd iv 21 (nI k21_12)) 22 p22_13) 25 (nI (k25_3 + 1))) fv gv) H := hP
  have hD : va_D A (mw h0 ad cs (upd (upd (upd iv 21 (nI k21_12)) 22 p22_13) 25 (nI (k25_3 + 1))) fv gv) := hD
  exact W.vret hx hb hr (fun t ht hW => ⟨⟨(), rfl, trivial, k21_12, p22_13, k25_3 + 1, by omega, by omega, Or.inl (by omega), by rw [ht]; exact hP, va_K.moved hW.alike hK, hD⟩, hS.F ht⟩) hS.2.2 dX9_must_27
