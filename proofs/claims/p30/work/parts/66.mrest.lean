theorem dX9_works_0 : decode cX9_works 0 = .ok (.iconst 0, 1) := by decide +kernel
theorem dX9_works_1 : decode cX9_works 1 = .ok (.istore_n 3, 1) := by decide +kernel
theorem dX9_works_2 : decode cX9_works 2 = .ok (.sipush 200, 3) := by decide +kernel
theorem dX9_works_5 : decode cX9_works 5 = .ok (.iload_n 1, 1) := by decide +kernel
theorem dX9_works_6 : decode cX9_works 6 = .ok (.imul, 1) := by decide +kernel
theorem dX9_works_7 : decode cX9_works 7 = .ok (.istore 4, 2) := by decide +kernel
theorem dX9_works_9 : decode cX9_works 9 = .ok (.iload 4, 2) := by decide +kernel
theorem dX9_works_11 : decode cX9_works 11 = .ok (.sipush 200, 3) := by decide +kernel
theorem dX9_works_14 : decode cX9_works 14 = .ok (.iload_n 1, 1) := by decide +kernel
theorem dX9_works_15 : decode cX9_works 15 = .ok (.imul, 1) := by decide +kernel
theorem dX9_works_16 : decode cX9_works 16 = .ok (.aload_n 0, 1) := by decide +kernel
theorem dX9_works_17 : decode cX9_works 17 = .ok (.getfield 71, 3) := by decide +kernel
theorem dX9_works_20 : decode cX9_works 20 = .ok (.iload_n 1, 1) := by decide +kernel
theorem dX9_works_21 : decode cX9_works 21 = .ok (.iaload, 1) := by decide +kernel
theorem dX9_works_22 : decode cX9_works 22 = .ok (.iadd, 1) := by decide +kernel
theorem dX9_works_23 : decode cX9_works 23 = .ok (.if_icmp .ge 172, 3) := by decide +kernel
theorem dX9_works_26 : decode cX9_works 26 = .ok (.aload_n 0, 1) := by decide +kernel
theorem dX9_works_27 : decode cX9_works 27 = .ok (.getfield 68, 3) := by decide +kernel
theorem dX9_works_30 : decode cX9_works 30 = .ok (.iload 4, 2) := by decide +kernel
theorem dX9_works_32 : decode cX9_works 32 = .ok (.iaload, 1) := by decide +kernel
theorem dX9_works_33 : decode cX9_works 33 = .ok (.istore 5, 2) := by decide +kernel
theorem dX9_works_35 : decode cX9_works 35 = .ok (.iinc 4 1, 3) := by decide +kernel
theorem dX9_works_38 : decode cX9_works 38 = .ok (.iload 5, 2) := by decide +kernel
theorem dX9_works_40 : decode cX9_works 40 = .ok (.bipush 13, 2) := by decide +kernel
theorem dX9_works_42 : decode cX9_works 42 = .ok (.if_icmp .ne 48, 3) := by decide +kernel
theorem dX9_works_45 : decode cX9_works 45 = .ok (.aload_n 0, 1) := by decide +kernel
theorem dX9_works_46 : decode cX9_works 46 = .ok (.getfield 114, 3) := by decide +kernel
theorem dX9_works_49 : decode cX9_works 49 = .ok (.iload_n 3, 1) := by decide +kernel
theorem dX9_works_50 : decode cX9_works 50 = .ok (.aload_n 0, 1) := by decide +kernel
theorem dX9_works_51 : decode cX9_works 51 = .ok (.iload_n 2, 1) := by decide +kernel
theorem dX9_works_52 : decode cX9_works 52 = .ok (.aload_n 0, 1) := by decide +kernel
theorem dX9_works_53 : decode cX9_works 53 = .ok (.getfield 68, 3) := by decide +kernel
theorem dX9_works_56 : decode cX9_works 56 = .ok (.iload 4, 2) := by decide +kernel
theorem dX9_works_58 : decode cX9_works 58 = .ok (.iaload, 1) := by decide +kernel
theorem dX9_works_59 : decode cX9_works 59 = .ok (.aload_n 0, 1) := by decide +kernel
theorem dX9_works_60 : decode cX9_works 60 = .ok (.getfield 68, 3) := by decide +kernel
theorem dX9_works_63 : decode cX9_works 63 = .ok (.iload 4, 2) := by decide +kernel
theorem dX9_works_65 : decode cX9_works 65 = .ok (.iconst 1, 1) := by decide +kernel
theorem dX9_works_66 : decode cX9_works 66 = .ok (.iadd, 1) := by decide +kernel
theorem dX9_works_67 : decode cX9_works 67 = .ok (.iaload, 1) := by decide +kernel
theorem dX9_works_68 : decode cX9_works 68 = .ok (.aload_n 0, 1) := by decide +kernel
theorem dX9_works_69 : decode cX9_works 69 = .ok (.getfield 68, 3) := by decide +kernel
theorem dX9_works_72 : decode cX9_works 72 = .ok (.iload 4, 2) := by decide +kernel
theorem dX9_works_74 : decode cX9_works 74 = .ok (.iconst 2, 1) := by decide +kernel
theorem dX9_works_75 : decode cX9_works 75 = .ok (.iadd, 1) := by decide +kernel
theorem dX9_works_76 : decode cX9_works 76 = .ok (.iaload, 1) := by decide +kernel
theorem dX9_works_77 : decode cX9_works 77 = .ok (.invokevirtual 277, 3) := by decide +kernel
theorem dX9_works_80 : decode cX9_works 80 = .ok (.iastore, 1) := by decide +kernel
theorem dX9_works_81 : decode cX9_works 81 = .ok (.iinc 3 1, 3) := by decide +kernel
theorem dX9_works_84 : decode cX9_works 84 = .ok (.iinc 4 3, 3) := by decide +kernel
theorem dX9_works_87 : decode cX9_works 87 = .ok (.goto 105, 3) := by decide +kernel
theorem dX9_works_90 : decode cX9_works 90 = .ok (.iload 5, 2) := by decide +kernel
theorem dX9_works_92 : decode cX9_works 92 = .ok (.iconst 3, 1) := by decide +kernel
theorem dX9_works_93 : decode cX9_works 93 = .ok (.if_icmp .ne 49, 3) := by decide +kernel
theorem dX9_works_96 : decode cX9_works 96 = .ok (.aload_n 0, 1) := by decide +kernel
theorem dX9_works_97 : decode cX9_works 97 = .ok (.getfield 114, 3) := by decide +kernel
theorem dX9_works_100 : decode cX9_works 100 = .ok (.iload_n 3, 1) := by decide +kernel
theorem dX9_works_101 : decode cX9_works 101 = .ok (.iconst 1, 1) := by decide +kernel
theorem dX9_works_102 : decode cX9_works 102 = .ok (.isub, 1) := by decide +kernel
theorem dX9_works_103 : decode cX9_works 103 = .ok (.iaload, 1) := by decide +kernel
theorem dX9_works_104 : decode cX9_works 104 = .ok (.istore 6, 2) := by decide +kernel
theorem dX9_works_106 : decode cX9_works 106 = .ok (.aload_n 0, 1) := by decide +kernel
theorem dX9_works_107 : decode cX9_works 107 = .ok (.getfield 114, 3) := by decide +kernel
theorem dX9_works_110 : decode cX9_works 110 = .ok (.iload_n 3, 1) := by decide +kernel
theorem dX9_works_111 : decode cX9_works 111 = .ok (.iconst 1, 1) := by decide +kernel
theorem dX9_works_112 : decode cX9_works 112 = .ok (.isub, 1) := by decide +kernel
theorem dX9_works_113 : decode cX9_works 113 = .ok (.iload 6, 2) := by decide +kernel
theorem dX9_works_115 : decode cX9_works 115 = .ok (.iconst 1, 1) := by decide +kernel
theorem dX9_works_116 : decode cX9_works 116 = .ok (.iand, 1) := by decide +kernel
theorem dX9_works_117 : decode cX9_works 117 = .ok (.ifCond .ne 7, 3) := by decide +kernel
theorem dX9_works_120 : decode cX9_works 120 = .ok (.iconst 2, 1) := by decide +kernel
theorem dX9_works_121 : decode cX9_works 121 = .ok (.goto 4, 3) := by decide +kernel
theorem dX9_works_124 : decode cX9_works 124 = .ok (.iconst 0, 1) := by decide +kernel
theorem dX9_works_125 : decode cX9_works 125 = .ok (.iload 6, 2) := by decide +kernel
theorem dX9_works_127 : decode cX9_works 127 = .ok (.iconst 2, 1) := by decide +kernel
theorem dX9_works_128 : decode cX9_works 128 = .ok (.iand, 1) := by decide +kernel
theorem dX9_works_129 : decode cX9_works 129 = .ok (.ifCond .ne 7, 3) := by decide +kernel
theorem dX9_works_132 : decode cX9_works 132 = .ok (.iconst 1, 1) := by decide +kernel
theorem dX9_works_133 : decode cX9_works 133 = .ok (.goto 4, 3) := by decide +kernel
theorem dX9_works_136 : decode cX9_works 136 = .ok (.iconst 0, 1) := by decide +kernel
theorem dX9_works_137 : decode cX9_works 137 = .ok (.iadd, 1) := by decide +kernel
theorem dX9_works_138 : decode cX9_works 138 = .ok (.iastore, 1) := by decide +kernel
theorem dX9_works_139 : decode cX9_works 139 = .ok (.goto 53, 3) := by decide +kernel
theorem dX9_works_142 : decode cX9_works 142 = .ok (.iinc 3 (-1), 3) := by decide +kernel
theorem dX9_works_145 : decode cX9_works 145 = .ok (.aload_n 0, 1) := by decide +kernel
theorem dX9_works_146 : decode cX9_works 146 = .ok (.getfield 114, 3) := by decide +kernel
theorem dX9_works_149 : decode cX9_works 149 = .ok (.iload_n 3, 1) := by decide +kernel
theorem dX9_works_150 : decode cX9_works 150 = .ok (.iconst 1, 1) := by decide +kernel
theorem dX9_works_151 : decode cX9_works 151 = .ok (.isub, 1) := by decide +kernel
theorem dX9_works_152 : decode cX9_works 152 = .ok (.iload 5, 2) := by decide +kernel
theorem dX9_works_154 : decode cX9_works 154 = .ok (.iconst 2, 1) := by decide +kernel
theorem dX9_works_155 : decode cX9_works 155 = .ok (.if_icmp .ne 21, 3) := by decide +kernel
theorem dX9_works_158 : decode cX9_works 158 = .ok (.aload_n 0, 1) := by decide +kernel
theorem dX9_works_159 : decode cX9_works 159 = .ok (.getfield 114, 3) := by decide +kernel
theorem dX9_works_162 : decode cX9_works 162 = .ok (.iload_n 3, 1) := by decide +kernel
theorem dX9_works_163 : decode cX9_works 163 = .ok (.iconst 1, 1) := by decide +kernel
theorem dX9_works_164 : decode cX9_works 164 = .ok (.isub, 1) := by decide +kernel
theorem dX9_works_165 : decode cX9_works 165 = .ok (.iaload, 1) := by decide +kernel
theorem dX9_works_166 : decode cX9_works 166 = .ok (.aload_n 0, 1) := by decide +kernel
theorem dX9_works_167 : decode cX9_works 167 = .ok (.getfield 114, 3) := by decide +kernel
theorem dX9_works_170 : decode cX9_works 170 = .ok (.iload_n 3, 1) := by decide +kernel
theorem dX9_works_171 : decode cX9_works 171 = .ok (.iaload, 1) := by decide +kernel
theorem dX9_works_172 : decode cX9_works 172 = .ok (.iand, 1) := by decide +kernel
theorem dX9_works_173 : decode cX9_works 173 = .ok (.goto 18, 3) := by decide +kernel
theorem dX9_works_176 : decode cX9_works 176 = .ok (.aload_n 0, 1) := by decide +kernel
theorem dX9_works_177 : decode cX9_works 177 = .ok (.getfield 114, 3) := by decide +kernel
theorem dX9_works_180 : decode cX9_works 180 = .ok (.iload_n 3, 1) := by decide +kernel
theorem dX9_works_181 : decode cX9_works 181 = .ok (.iconst 1, 1) := by decide +kernel
theorem dX9_works_182 : decode cX9_works 182 = .ok (.isub, 1) := by decide +kernel
theorem dX9_works_183 : decode cX9_works 183 = .ok (.iaload, 1) := by decide +kernel
theorem dX9_works_184 : decode cX9_works 184 = .ok (.aload_n 0, 1) := by decide +kernel
theorem dX9_works_185 : decode cX9_works 185 = .ok (.getfield 114, 3) := by decide +kernel
theorem dX9_works_188 : decode cX9_works 188 = .ok (.iload_n 3, 1) := by decide +kernel
theorem dX9_works_189 : decode cX9_works 189 = .ok (.iaload, 1) := by decide +kernel
theorem dX9_works_190 : decode cX9_works 190 = .ok (.ior, 1) := by decide +kernel
theorem dX9_works_191 : decode cX9_works 191 = .ok (.iastore, 1) := by decide +kernel
theorem dX9_works_192 : decode cX9_works 192 = .ok (.goto (-183), 3) := by decide +kernel
theorem dX9_works_195 : decode cX9_works 195 = .ok (.aload_n 0, 1) := by decide +kernel
theorem dX9_works_196 : decode cX9_works 196 = .ok (.getfield 114, 3) := by decide +kernel
theorem dX9_works_199 : decode cX9_works 199 = .ok (.iconst 0, 1) := by decide +kernel
theorem dX9_works_200 : decode cX9_works 200 = .ok (.iaload, 1) := by decide +kernel
theorem dX9_works_201 : decode cX9_works 201 = .ok (.ireturn, 1) := by decide +kernel
theorem dX9_says_0 : decode cX9_says 0 = .ok (.aload_n 0, 1) := by decide +kernel
theorem dX9_says_1 : decode cX9_says 1 = .ok (.iload_n 2, 1) := by decide +kernel
theorem dX9_says_2 : decode cX9_says 2 = .ok (.iload_n 3, 1) := by decide +kernel
theorem dX9_says_3 : decode cX9_says 3 = .ok (.invokevirtual 179, 3) := by decide +kernel
theorem dX9_says_6 : decode cX9_says 6 = .ok (.istore 4, 2) := by decide +kernel
theorem dX9_says_8 : decode cX9_says 8 = .ok (.iload_n 1, 1) := by decide +kernel
theorem dX9_says_9 : decode cX9_says 9 = .ok (.ifCond .lt 25, 3) := by decide +kernel
theorem dX9_says_12 : decode cX9_says 12 = .ok (.iload_n 1, 1) := by decide +kernel
theorem dX9_says_13 : decode cX9_says 13 = .ok (.aload_n 0, 1) := by decide +kernel
theorem dX9_says_14 : decode cX9_says 14 = .ok (.getfield 53, 3) := by decide +kernel
theorem dX9_says_17 : decode cX9_says 17 = .ok (.if_icmp .ge 17, 3) := by decide +kernel
theorem dX9_says_20 : decode cX9_says 20 = .ok (.iload 4, 2) := by decide +kernel
theorem dX9_says_22 : decode cX9_says 22 = .ok (.ifCond .lt 12, 3) := by decide +kernel
theorem dX9_says_25 : decode cX9_says 25 = .ok (.aload_n 0, 1) := by decide +kernel
theorem dX9_says_26 : decode cX9_says 26 = .ok (.iload 4, 2) := by decide +kernel
theorem dX9_says_28 : decode cX9_says 28 = .ok (.invokevirtual 169, 3) := by decide +kernel
theorem dX9_says_31 : decode cX9_says 31 = .ok (.ifCond .ne 5, 3) := by decide +kernel
theorem dX9_says_34 : decode cX9_says 34 = .ok (.iconst (-1), 1) := by decide +kernel
theorem dX9_says_35 : decode cX9_says 35 = .ok (.ireturn, 1) := by decide +kernel
theorem dX9_says_36 : decode cX9_says 36 = .ok (.aload_n 0, 1) := by decide +kernel
theorem dX9_says_37 : decode cX9_says 37 = .ok (.iload_n 1, 1) := by decide +kernel
theorem dX9_says_38 : decode cX9_says 38 = .ok (.iload 4, 2) := by decide +kernel
theorem dX9_says_40 : decode cX9_says 40 = .ok (.invokevirtual 281, 3) := by decide +kernel
theorem dX9_says_43 : decode cX9_says 43 = .ok (.istore 5, 2) := by decide +kernel
theorem dX9_says_45 : decode cX9_says 45 = .ok (.iload 5, 2) := by decide +kernel
theorem dX9_says_47 : decode cX9_says 47 = .ok (.iconst 2, 1) := by decide +kernel
theorem dX9_says_48 : decode cX9_says 48 = .ok (.iand, 1) := by decide +kernel
theorem dX9_says_49 : decode cX9_says 49 = .ok (.ifCond .le 7, 3) := by decide +kernel
theorem dX9_says_52 : decode cX9_says 52 = .ok (.iconst 2, 1) := by decide +kernel
theorem dX9_says_53 : decode cX9_says 53 = .ok (.goto 5, 3) := by decide +kernel
theorem dX9_says_56 : decode cX9_says 56 = .ok (.iload 5, 2) := by decide +kernel
theorem dX9_says_58 : decode cX9_says 58 = .ok (.ireturn, 1) := by decide +kernel
theorem dX9_name__0 : decode cX9_name_ 0 = .ok (.aload_n 0, 1) := by decide +kernel
theorem dX9_name__1 : decode cX9_name_ 1 = .ok (.iload_n 1, 1) := by decide +kernel
theorem dX9_name__2 : decode cX9_name_ 2 = .ok (.iload_n 2, 1) := by decide +kernel
theorem dX9_name__3 : decode cX9_name_ 3 = .ok (.invokevirtual 179, 3) := by decide +kernel
theorem dX9_name__6 : decode cX9_name_ 6 = .ok (.istore 4, 2) := by decide +kernel
theorem dX9_name__8 : decode cX9_name_ 8 = .ok (.iload 4, 2) := by decide +kernel
theorem dX9_name__10 : decode cX9_name_ 10 = .ok (.ifCond .lt 12, 3) := by decide +kernel
theorem dX9_name__13 : decode cX9_name_ 13 = .ok (.aload_n 0, 1) := by decide +kernel
theorem dX9_name__14 : decode cX9_name_ 14 = .ok (.iload 4, 2) := by decide +kernel
theorem dX9_name__16 : decode cX9_name_ 16 = .ok (.invokevirtual 169, 3) := by decide +kernel
theorem dX9_name__19 : decode cX9_name_ 19 = .ok (.ifCond .ne 5, 3) := by decide +kernel
theorem dX9_name__22 : decode cX9_name_ 22 = .ok (.iconst (-1), 1) := by decide +kernel
theorem dX9_name__23 : decode cX9_name_ 23 = .ok (.ireturn, 1) := by decide +kernel
theorem dX9_name__24 : decode cX9_name_ 24 = .ok (.iconst 0, 1) := by decide +kernel
theorem dX9_name__25 : decode cX9_name_ 25 = .ok (.istore 5, 2) := by decide +kernel
theorem dX9_name__27 : decode cX9_name_ 27 = .ok (.iload 5, 2) := by decide +kernel
theorem dX9_name__29 : decode cX9_name_ 29 = .ok (.aload_n 0, 1) := by decide +kernel
theorem dX9_name__30 : decode cX9_name_ 30 = .ok (.getfield 53, 3) := by decide +kernel
theorem dX9_name__33 : decode cX9_name_ 33 = .ok (.if_icmp .ge 35, 3) := by decide +kernel
theorem dX9_name__36 : decode cX9_name_ 36 = .ok (.aload_n 0, 1) := by decide +kernel
theorem dX9_name__37 : decode cX9_name_ 37 = .ok (.iload 5, 2) := by decide +kernel
theorem dX9_name__39 : decode cX9_name_ 39 = .ok (.iload_n 3, 1) := by decide +kernel
theorem dX9_name__40 : decode cX9_name_ 40 = .ok (.invokevirtual 288, 3) := by decide +kernel
theorem dX9_name__43 : decode cX9_name_ 43 = .ok (.ifCond .eq 19, 3) := by decide +kernel
theorem dX9_name__46 : decode cX9_name_ 46 = .ok (.aload_n 0, 1) := by decide +kernel
theorem dX9_name__47 : decode cX9_name_ 47 = .ok (.iload 5, 2) := by decide +kernel
theorem dX9_name__49 : decode cX9_name_ 49 = .ok (.iload 4, 2) := by decide +kernel
theorem dX9_name__51 : decode cX9_name_ 51 = .ok (.invokevirtual 281, 3) := by decide +kernel
theorem dX9_name__54 : decode cX9_name_ 54 = .ok (.iconst 2, 1) := by decide +kernel
theorem dX9_name__55 : decode cX9_name_ 55 = .ok (.iand, 1) := by decide +kernel
theorem dX9_name__56 : decode cX9_name_ 56 = .ok (.ifCond .le 6, 3) := by decide +kernel
theorem dX9_name__59 : decode cX9_name_ 59 = .ok (.iload 5, 2) := by decide +kernel
theorem dX9_name__61 : decode cX9_name_ 61 = .ok (.ireturn, 1) := by decide +kernel
theorem dX9_name__62 : decode cX9_name_ 62 = .ok (.iinc 5 1, 3) := by decide +kernel
theorem dX9_name__65 : decode cX9_name_ 65 = .ok (.goto (-38), 3) := by decide +kernel
theorem dX9_name__68 : decode cX9_name_ 68 = .ok (.iconst (-1), 1) := by decide +kernel
theorem dX9_name__69 : decode cX9_name_ 69 = .ok (.ireturn, 1) := by decide +kernel
theorem dX9_lot_0 : decode cX9_lot 0 = .ok (.iload_n 1, 1) := by decide +kernel
theorem dX9_lot_1 : decode cX9_lot 1 = .ok (.iconst 0, 1) := by decide +kernel
theorem dX9_lot_2 : decode cX9_lot 2 = .ok (.bipush 9, 2) := by decide +kernel
theorem dX9_lot_4 : decode cX9_lot 4 = .ok (.invokestatic 151, 3) := by decide +kernel
theorem dX9_lot_7 : decode cX9_lot 7 = .ok (.ifCond .eq 56, 3) := by decide +kernel
theorem dX9_lot_10 : decode cX9_lot 10 = .ok (.iload_n 2, 1) := by decide +kernel
theorem dX9_lot_11 : decode cX9_lot 11 = .ok (.iconst 1, 1) := by decide +kernel
theorem dX9_lot_12 : decode cX9_lot 12 = .ok (.ldc 155, 2) := by decide +kernel
theorem dX9_lot_14 : decode cX9_lot 14 = .ok (.invokestatic 151, 3) := by decide +kernel
theorem dX9_lot_17 : decode cX9_lot 17 = .ok (.ifCond .eq 46, 3) := by decide +kernel
theorem dX9_lot_20 : decode cX9_lot 20 = .ok (.iload_n 3, 1) := by decide +kernel
theorem dX9_lot_21 : decode cX9_lot 21 = .ok (.bipush 100, 2) := by decide +kernel
theorem dX9_lot_23 : decode cX9_lot 23 = .ok (.sipush 300, 3) := by decide +kernel
theorem dX9_lot_26 : decode cX9_lot 26 = .ok (.invokestatic 151, 3) := by decide +kernel
theorem dX9_lot_29 : decode cX9_lot 29 = .ok (.ifCond .eq 34, 3) := by decide +kernel
theorem dX9_lot_32 : decode cX9_lot 32 = .ok (.iload 4, 2) := by decide +kernel
theorem dX9_lot_34 : decode cX9_lot 34 = .ok (.iconst 0, 1) := by decide +kernel
theorem dX9_lot_35 : decode cX9_lot 35 = .ok (.sipush 140, 3) := by decide +kernel
theorem dX9_lot_38 : decode cX9_lot 38 = .ok (.invokestatic 151, 3) := by decide +kernel
theorem dX9_lot_41 : decode cX9_lot 41 = .ok (.ifCond .eq 22, 3) := by decide +kernel
theorem dX9_lot_44 : decode cX9_lot 44 = .ok (.iload 5, 2) := by decide +kernel
theorem dX9_lot_46 : decode cX9_lot 46 = .ok (.iconst 0, 1) := by decide +kernel
theorem dX9_lot_47 : decode cX9_lot 47 = .ok (.iconst 3, 1) := by decide +kernel
theorem dX9_lot_48 : decode cX9_lot 48 = .ok (.invokestatic 151, 3) := by decide +kernel
theorem dX9_lot_51 : decode cX9_lot 51 = .ok (.ifCond .eq 12, 3) := by decide +kernel
theorem dX9_lot_54 : decode cX9_lot 54 = .ok (.aload_n 0, 1) := by decide +kernel
theorem dX9_lot_55 : decode cX9_lot 55 = .ok (.getfield 20, 3) := by decide +kernel
theorem dX9_lot_58 : decode cX9_lot 58 = .ok (.bipush 40, 2) := by decide +kernel
theorem dX9_lot_60 : decode cX9_lot 60 = .ok (.if_icmp .ne 5, 3) := by decide +kernel
theorem dX9_lot_63 : decode cX9_lot 63 = .ok (.iconst (-1), 1) := by decide +kernel
theorem dX9_lot_64 : decode cX9_lot 64 = .ok (.ireturn, 1) := by decide +kernel
theorem dX9_lot_65 : decode cX9_lot 65 = .ok (.aload_n 0, 1) := by decide +kernel
theorem dX9_lot_66 : decode cX9_lot 66 = .ok (.getfield 20, 3) := by decide +kernel
theorem dX9_lot_69 : decode cX9_lot 69 = .ok (.istore 6, 2) := by decide +kernel
theorem dX9_lot_71 : decode cX9_lot 71 = .ok (.aload_n 0, 1) := by decide +kernel
theorem dX9_lot_72 : decode cX9_lot 72 = .ok (.dup, 1) := by decide +kernel
theorem dX9_lot_73 : decode cX9_lot 73 = .ok (.getfield 20, 3) := by decide +kernel
theorem dX9_lot_76 : decode cX9_lot 76 = .ok (.iconst 1, 1) := by decide +kernel
theorem dX9_lot_77 : decode cX9_lot 77 = .ok (.iadd, 1) := by decide +kernel
theorem dX9_lot_78 : decode cX9_lot 78 = .ok (.putfield 20, 3) := by decide +kernel
theorem dX9_lot_81 : decode cX9_lot 81 = .ok (.aload_n 0, 1) := by decide +kernel
theorem dX9_lot_82 : decode cX9_lot 82 = .ok (.getfield 23, 3) := by decide +kernel
theorem dX9_lot_85 : decode cX9_lot 85 = .ok (.bipush 7, 2) := by decide +kernel
theorem dX9_lot_87 : decode cX9_lot 87 = .ok (.iload 6, 2) := by decide +kernel
theorem dX9_lot_89 : decode cX9_lot 89 = .ok (.imul, 1) := by decide +kernel
theorem dX9_lot_90 : decode cX9_lot 90 = .ok (.iload_n 1, 1) := by decide +kernel
theorem dX9_lot_91 : decode cX9_lot 91 = .ok (.iastore, 1) := by decide +kernel
theorem dX9_lot_92 : decode cX9_lot 92 = .ok (.aload_n 0, 1) := by decide +kernel
theorem dX9_lot_93 : decode cX9_lot 93 = .ok (.getfield 23, 3) := by decide +kernel
theorem dX9_lot_96 : decode cX9_lot 96 = .ok (.bipush 7, 2) := by decide +kernel
theorem dX9_lot_98 : decode cX9_lot 98 = .ok (.iload 6, 2) := by decide +kernel
theorem dX9_lot_100 : decode cX9_lot 100 = .ok (.imul, 1) := by decide +kernel
theorem dX9_lot_101 : decode cX9_lot 101 = .ok (.iconst 1, 1) := by decide +kernel
theorem dX9_lot_102 : decode cX9_lot 102 = .ok (.iadd, 1) := by decide +kernel
theorem dX9_lot_103 : decode cX9_lot 103 = .ok (.iload_n 2, 1) := by decide +kernel
theorem dX9_lot_104 : decode cX9_lot 104 = .ok (.iastore, 1) := by decide +kernel
theorem dX9_lot_105 : decode cX9_lot 105 = .ok (.aload_n 0, 1) := by decide +kernel
theorem dX9_lot_106 : decode cX9_lot 106 = .ok (.getfield 23, 3) := by decide +kernel
theorem dX9_lot_109 : decode cX9_lot 109 = .ok (.bipush 7, 2) := by decide +kernel
theorem dX9_lot_111 : decode cX9_lot 111 = .ok (.iload 6, 2) := by decide +kernel
theorem dX9_lot_113 : decode cX9_lot 113 = .ok (.imul, 1) := by decide +kernel
theorem dX9_lot_114 : decode cX9_lot 114 = .ok (.iconst 2, 1) := by decide +kernel
theorem dX9_lot_115 : decode cX9_lot 115 = .ok (.iadd, 1) := by decide +kernel
theorem dX9_lot_116 : decode cX9_lot 116 = .ok (.iload_n 3, 1) := by decide +kernel
theorem dX9_lot_117 : decode cX9_lot 117 = .ok (.iastore, 1) := by decide +kernel
theorem dX9_lot_118 : decode cX9_lot 118 = .ok (.aload_n 0, 1) := by decide +kernel
theorem dX9_lot_119 : decode cX9_lot 119 = .ok (.getfield 23, 3) := by decide +kernel
theorem dX9_lot_122 : decode cX9_lot 122 = .ok (.bipush 7, 2) := by decide +kernel
theorem dX9_lot_124 : decode cX9_lot 124 = .ok (.iload 6, 2) := by decide +kernel
theorem dX9_lot_126 : decode cX9_lot 126 = .ok (.imul, 1) := by decide +kernel
theorem dX9_lot_127 : decode cX9_lot 127 = .ok (.iconst 3, 1) := by decide +kernel
theorem dX9_lot_128 : decode cX9_lot 128 = .ok (.iadd, 1) := by decide +kernel
theorem dX9_lot_129 : decode cX9_lot 129 = .ok (.iload 4, 2) := by decide +kernel
theorem dX9_lot_131 : decode cX9_lot 131 = .ok (.iastore, 1) := by decide +kernel
theorem dX9_lot_132 : decode cX9_lot 132 = .ok (.aload_n 0, 1) := by decide +kernel
theorem dX9_lot_133 : decode cX9_lot 133 = .ok (.getfield 23, 3) := by decide +kernel
theorem dX9_lot_136 : decode cX9_lot 136 = .ok (.bipush 7, 2) := by decide +kernel
theorem dX9_lot_138 : decode cX9_lot 138 = .ok (.iload 6, 2) := by decide +kernel
theorem dX9_lot_140 : decode cX9_lot 140 = .ok (.imul, 1) := by decide +kernel
theorem dX9_lot_141 : decode cX9_lot 141 = .ok (.iconst 4, 1) := by decide +kernel
theorem dX9_lot_142 : decode cX9_lot 142 = .ok (.iadd, 1) := by decide +kernel
theorem dX9_lot_143 : decode cX9_lot 143 = .ok (.iload 5, 2) := by decide +kernel
theorem dX9_lot_145 : decode cX9_lot 145 = .ok (.iastore, 1) := by decide +kernel
theorem dX9_lot_146 : decode cX9_lot 146 = .ok (.aload_n 0, 1) := by decide +kernel
theorem dX9_lot_147 : decode cX9_lot 147 = .ok (.getfield 23, 3) := by decide +kernel
theorem dX9_lot_150 : decode cX9_lot 150 = .ok (.bipush 7, 2) := by decide +kernel
theorem dX9_lot_152 : decode cX9_lot 152 = .ok (.iload 6, 2) := by decide +kernel
theorem dX9_lot_154 : decode cX9_lot 154 = .ok (.imul, 1) := by decide +kernel
theorem dX9_lot_155 : decode cX9_lot 155 = .ok (.iconst 5, 1) := by decide +kernel
theorem dX9_lot_156 : decode cX9_lot 156 = .ok (.iadd, 1) := by decide +kernel
theorem dX9_lot_157 : decode cX9_lot 157 = .ok (.iload_n 2, 1) := by decide +kernel
theorem dX9_lot_158 : decode cX9_lot 158 = .ok (.iastore, 1) := by decide +kernel
theorem dX9_lot_159 : decode cX9_lot 159 = .ok (.iconst 0, 1) := by decide +kernel
theorem dX9_lot_160 : decode cX9_lot 160 = .ok (.istore 7, 2) := by decide +kernel
theorem dX9_lot_162 : decode cX9_lot 162 = .ok (.iload 7, 2) := by decide +kernel
theorem dX9_lot_164 : decode cX9_lot 164 = .ok (.iconst 5, 1) := by decide +kernel
theorem dX9_lot_165 : decode cX9_lot 165 = .ok (.if_icmp .ge 37, 3) := by decide +kernel
theorem dX9_lot_168 : decode cX9_lot 168 = .ok (.aload_n 0, 1) := by decide +kernel
theorem dX9_lot_169 : decode cX9_lot 169 = .ok (.getfield 26, 3) := by decide +kernel
theorem dX9_lot_172 : decode cX9_lot 172 = .ok (.iconst 5, 1) := by decide +kernel
theorem dX9_lot_173 : decode cX9_lot 173 = .ok (.iload 6, 2) := by decide +kernel
theorem dX9_lot_175 : decode cX9_lot 175 = .ok (.imul, 1) := by decide +kernel
theorem dX9_lot_176 : decode cX9_lot 176 = .ok (.iload 7, 2) := by decide +kernel
theorem dX9_lot_178 : decode cX9_lot 178 = .ok (.iadd, 1) := by decide +kernel
theorem dX9_lot_179 : decode cX9_lot 179 = .ok (.iconst 0, 1) := by decide +kernel
theorem dX9_lot_180 : decode cX9_lot 180 = .ok (.iastore, 1) := by decide +kernel
theorem dX9_lot_181 : decode cX9_lot 181 = .ok (.aload_n 0, 1) := by decide +kernel
theorem dX9_lot_182 : decode cX9_lot 182 = .ok (.getfield 29, 3) := by decide +kernel
theorem dX9_lot_185 : decode cX9_lot 185 = .ok (.iconst 5, 1) := by decide +kernel
theorem dX9_lot_186 : decode cX9_lot 186 = .ok (.iload 6, 2) := by decide +kernel
theorem dX9_lot_188 : decode cX9_lot 188 = .ok (.imul, 1) := by decide +kernel
theorem dX9_lot_189 : decode cX9_lot 189 = .ok (.iload 7, 2) := by decide +kernel
theorem dX9_lot_191 : decode cX9_lot 191 = .ok (.iadd, 1) := by decide +kernel
theorem dX9_lot_192 : decode cX9_lot 192 = .ok (.sipush 1000, 3) := by decide +kernel
theorem dX9_lot_195 : decode cX9_lot 195 = .ok (.iastore, 1) := by decide +kernel
theorem dX9_lot_196 : decode cX9_lot 196 = .ok (.iinc 7 1, 3) := by decide +kernel
theorem dX9_lot_199 : decode cX9_lot 199 = .ok (.goto (-37), 3) := by decide +kernel
theorem dX9_lot_202 : decode cX9_lot 202 = .ok (.iconst 0, 1) := by decide +kernel
theorem dX9_lot_203 : decode cX9_lot 203 = .ok (.istore 7, 2) := by decide +kernel
theorem dX9_lot_205 : decode cX9_lot 205 = .ok (.iload 7, 2) := by decide +kernel
theorem dX9_lot_207 : decode cX9_lot 207 = .ok (.bipush 8, 2) := by decide +kernel
theorem dX9_lot_209 : decode cX9_lot 209 = .ok (.if_icmp .ge 29, 3) := by decide +kernel
theorem dX9_lot_212 : decode cX9_lot 212 = .ok (.aload_n 0, 1) := by decide +kernel
theorem dX9_lot_213 : decode cX9_lot 213 = .ok (.getfield 32, 3) := by decide +kernel
theorem dX9_lot_216 : decode cX9_lot 216 = .ok (.bipush 8, 2) := by decide +kernel
theorem dX9_lot_218 : decode cX9_lot 218 = .ok (.iload 6, 2) := by decide +kernel
theorem dX9_lot_220 : decode cX9_lot 220 = .ok (.imul, 1) := by decide +kernel
theorem dX9_lot_221 : decode cX9_lot 221 = .ok (.iload 7, 2) := by decide +kernel
theorem dX9_lot_223 : decode cX9_lot 223 = .ok (.iadd, 1) := by decide +kernel
theorem dX9_lot_224 : decode cX9_lot 224 = .ok (.aload_n 0, 1) := by decide +kernel
theorem dX9_lot_225 : decode cX9_lot 225 = .ok (.getfield 35, 3) := by decide +kernel
theorem dX9_lot_228 : decode cX9_lot 228 = .ok (.iload 7, 2) := by decide +kernel
theorem dX9_lot_230 : decode cX9_lot 230 = .ok (.iaload, 1) := by decide +kernel
theorem dX9_lot_231 : decode cX9_lot 231 = .ok (.iastore, 1) := by decide +kernel
theorem dX9_lot_232 : decode cX9_lot 232 = .ok (.iinc 7 1, 3) := by decide +kernel
theorem dX9_lot_235 : decode cX9_lot 235 = .ok (.goto (-30), 3) := by decide +kernel
theorem dX9_lot_238 : decode cX9_lot 238 = .ok (.aload_n 0, 1) := by decide +kernel
theorem dX9_lot_239 : decode cX9_lot 239 = .ok (.getfield 23, 3) := by decide +kernel
theorem dX9_lot_242 : decode cX9_lot 242 = .ok (.bipush 7, 2) := by decide +kernel
theorem dX9_lot_244 : decode cX9_lot 244 = .ok (.iload 6, 2) := by decide +kernel
theorem dX9_lot_246 : decode cX9_lot 246 = .ok (.imul, 1) := by decide +kernel
theorem dX9_lot_247 : decode cX9_lot 247 = .ok (.bipush 6, 2) := by decide +kernel
theorem dX9_lot_249 : decode cX9_lot 249 = .ok (.iadd, 1) := by decide +kernel
theorem dX9_lot_250 : decode cX9_lot 250 = .ok (.aload_n 0, 1) := by decide +kernel
theorem dX9_lot_251 : decode cX9_lot 251 = .ok (.iload 6, 2) := by decide +kernel
theorem dX9_lot_253 : decode cX9_lot 253 = .ok (.iload_n 3, 1) := by decide +kernel
theorem dX9_lot_254 : decode cX9_lot 254 = .ok (.invokevirtual 156, 3) := by decide +kernel
theorem dX9_lot_257 : decode cX9_lot 257 = .ok (.iastore, 1) := by decide +kernel
theorem dX9_lot_258 : decode cX9_lot 258 = .ok (.iload 6, 2) := by decide +kernel
theorem dX9_lot_260 : decode cX9_lot 260 = .ok (.ireturn, 1) := by decide +kernel
set_option maxRecDepth 20000 in
theorem ggX9_works_X9_tells : GoodIn wsX9_works wsX9_tells := goodIn_r _ [8, 9, 10, 11, 12, 7, 13, 14, 15, 16, 17, 18, 19, 20, 21, 22, 23, 24, 25, 26, 27, 28, 29, 30, 31, 32, 33, 34, 35, 36, 37, 38, 39, 40, 41, 42, 43, 44, 45, 46, 47, 48, 49, 50, 51, 52, 53, 54, 55, 56, 57, 58, 59, 60, 61, 62, 63, 64, 65, 66] rfl (by decide +kernel)
set_option maxRecDepth 20000 in
theorem gX9_works_X9_tells : GoodIn wsX9_works (wsV RX9 277 RX9 yX9_tells wsX9_tells) := goodIn_app (goodIn_of _ (by decide +kernel)) ggX9_works_X9_tells
set_option maxRecDepth 20000 in
theorem ggX9_says_X9_row : GoodIn wsX9_says wsX9_row := goodIn_r _ [6, 7, 8, 9, 5, 10, 36, 37, 38, 39, 40, 41, 42, 43, 44, 45, 46, 47, 48, 49, 50, 51, 52, 53, 54, 55, 56, 57, 58, 59, 60, 61, 62, 63, 64, 65, 66, 67, 68, 69, 70, 71, 72, 73, 74, 75, 76, 77, 78, 79] rfl (by decide +kernel)
set_option maxRecDepth 20000 in
theorem gX9_says_X9_row : GoodIn wsX9_says (wsV RX9 179 RX9 yX9_row wsX9_row) := goodIn_app (goodIn_of _ (by decide +kernel)) ggX9_says_X9_row
set_option maxRecDepth 20000 in
theorem ggX9_says_X9_all : GoodIn wsX9_says wsX9_all := goodIn_r _ [14, 15, 16, 36, 37, 38, 39, 40, 41, 42, 43, 44, 45, 46, 47, 48, 49, 50, 51, 52, 53, 54, 55, 56, 57, 58, 59, 60, 61, 62, 63, 64, 65, 66, 67, 68, 69, 70, 71, 72, 73, 74, 75, 76, 77, 78, 79] rfl (by decide +kernel)
set_option maxRecDepth 20000 in
theorem gX9_says_X9_all : GoodIn wsX9_says (wsV RX9 169 RX9 yX9_all wsX9_all) := goodIn_app (goodIn_of _ (by decide +kernel)) ggX9_says_X9_all
set_option maxRecDepth 20000 in
theorem ggX9_says_X9_works : GoodIn wsX9_says wsX9_works := goodIn_r _ [20, 21, 22, 23, 24, 25, 26, 5, 27, 28, 11, 12, 13, 14, 15, 16, 29, 30, 31, 32, 33, 34, 35, 36, 37, 38, 39, 40, 41, 42, 43, 44, 45, 46, 47, 48, 49, 50, 51, 52, 53, 54, 55, 56, 57, 58, 59, 60, 61, 62, 63, 64, 65, 66, 67, 68, 69, 70, 71, 72, 73, 74, 75, 76, 77, 78, 79] rfl (by decide +kernel)
set_option maxRecDepth 20000 in
theorem gX9_says_X9_works : GoodIn wsX9_says (wsV RX9 281 RX9 yX9_works wsX9_works) := goodIn_app (goodIn_of _ (by decide +kernel)) ggX9_says_X9_works
set_option maxRecDepth 20000 in
theorem ggX9_name__X9_row : GoodIn wsX9_name_ wsX9_row := goodIn_r _ [6, 7, 8, 9, 5, 10, 48, 49, 50, 51, 52, 53, 54, 55, 56, 57, 58, 59, 60, 61, 62, 63, 64, 65, 66, 67, 68, 69, 70, 71, 72, 73, 74, 75, 76, 77, 78, 79, 80, 81, 82, 83, 84, 85, 86, 87, 88, 89, 90, 91] rfl (by decide +kernel)
set_option maxRecDepth 20000 in
theorem gX9_name__X9_row : GoodIn wsX9_name_ (wsV RX9 179 RX9 yX9_row wsX9_row) := goodIn_app (goodIn_of _ (by decide +kernel)) ggX9_name__X9_row
set_option maxRecDepth 20000 in
theorem ggX9_name__X9_all : GoodIn wsX9_name_ wsX9_all := goodIn_r _ [14, 15, 16, 48, 49, 50, 51, 52, 53, 54, 55, 56, 57, 58, 59, 60, 61, 62, 63, 64, 65, 66, 67, 68, 69, 70, 71, 72, 73, 74, 75, 76, 77, 78, 79, 80, 81, 82, 83, 84, 85, 86, 87, 88, 89, 90, 91] rfl (by decide +kernel)
set_option maxRecDepth 20000 in
theorem gX9_name__X9_all : GoodIn wsX9_name_ (wsV RX9 169 RX9 yX9_all wsX9_all) := goodIn_app (goodIn_of _ (by decide +kernel)) ggX9_name__X9_all
set_option maxRecDepth 20000 in
theorem ggX9_name__X9_isInForce : GoodIn wsX9_name_ wsX9_isInForce := goodIn_r _ [20, 21, 22, 1, 23, 24, 25, 5, 26, 27, 28, 48, 49, 50, 51, 52, 53, 54, 55, 56, 57, 58, 59, 60, 61, 62, 63, 64, 65, 66, 67, 68, 69, 70, 71, 72, 73, 74, 75, 76, 77, 78, 79, 80, 81, 82, 83, 84, 85, 86, 87, 88, 89, 90, 91] rfl (by decide +kernel)
set_option maxRecDepth 20000 in
theorem gX9_name__X9_isInForce : GoodIn wsX9_name_ (wsV RX9 288 RX9 yX9_isInForce wsX9_isInForce) := goodIn_app (goodIn_of _ (by decide +kernel)) ggX9_name__X9_isInForce
set_option maxRecDepth 20000 in
theorem ggX9_name__X9_works : GoodIn wsX9_name_ wsX9_works := goodIn_r _ [32, 33, 34, 35, 36, 37, 38, 5, 39, 40, 11, 12, 13, 14, 15, 16, 41, 42, 43, 44, 45, 46, 47, 48, 49, 50, 51, 52, 53, 54, 55, 56, 57, 58, 59, 60, 61, 62, 63, 64, 65, 66, 67, 68, 69, 70, 71, 72, 73, 74, 75, 76, 77, 78, 79, 80, 81, 82, 83, 84, 85, 86, 87, 88, 89, 90, 91] rfl (by decide +kernel)
set_option maxRecDepth 20000 in
theorem gX9_name__X9_works : GoodIn wsX9_name_ (wsV RX9 281 RX9 yX9_works wsX9_works) := goodIn_app (goodIn_of _ (by decide +kernel)) ggX9_name__X9_works
set_option maxRecDepth 20000 in
theorem ggX9_lot_X9_is : GoodIn wsX9_lot wsX9_is := goodIn_r _ [11] rfl (by decide +kernel)
set_option maxRecDepth 20000 in
theorem gX9_lot_X9_is : GoodIn wsX9_lot (va_wsS RX9 151 yX9_is wsX9_is) := goodIn_app (goodIn_of _ (by decide +kernel)) ggX9_lot_X9_is
set_option maxRecDepth 20000 in
theorem ggX9_lot_X9_pay : GoodIn wsX9_lot wsX9_pay := goodIn_r _ [15, 6, 3, 16, 17, 18, 19, 20, 21, 22, 23, 24, 25, 26, 27, 28, 29, 30, 31, 32, 33, 34, 35, 36, 37, 38, 39, 40, 41, 42, 43, 44, 45, 46, 47, 48, 49, 50, 51, 52, 53, 54, 55, 56, 57, 58, 59, 60] rfl (by decide +kernel)
set_option maxRecDepth 20000 in
theorem gX9_lot_X9_pay : GoodIn wsX9_lot (wsV RX9 156 RX9 yX9_pay wsX9_pay) := goodIn_app (goodIn_of _ (by decide +kernel)) ggX9_lot_X9_pay
theorem i3_13 : ¬ (3 : Int32) = 13 := by decide
set_option maxHeartbeats 4000000 in
set_option maxRecDepth 100000 in
theorem m_works (l : Launch) (D : va_G) (h0 : Nat) (ad : Nat → Nat) (cs : Nat → ClassId) (iv : Nat → Int32) (fv : Nat → Nat → Int32) (gv : Nat → Int64) (n3 n14 : Nat) (t u : Nat) (sz : Nat) (h3 : iv 3 = nI n3) (h14 : iv 14 = nI n14) (b3 : n3 ≤ 40) (b14 : n14 ≤ 16) (ht9 : t < n14) (hu : u < 70) (hC : ∀ i : Nat, i < n14 → ∃ k n : Nat, k ≤ 200 ∧ fv 20 i = nI k ∧ wfs (fv 19) (200 * i) k n) : Met l yX9_works wsX9_works ({ frames := 2, cells := 0, slots := 0, locals := 54 }) (va_Pc [.ref h0, .int (nI t), .int (nI u)] (fun U => U.heap.size = sz ∧ va_P D vwCl (mw h0 ad cs iv fv gv) U.heap ∧ va_K D vwCl (mT cs) U ∧ va_D (fun _ => True) (mw h0 ad cs iv fv gv))) (va_Qi (fun (r u : Int32) => r = u) (fun (r : Int32) (t : State) => ∃ (f34 : Nat → Int32), va_P D vwCl (mw h0 ad cs iv (uF fv 34 f34) gv) t.heap ∧ va_K D vwCl (mT cs) t ∧ va_D (va_A (mw h0 ad cs iv fv gv) sz) (mw h0 ad cs iv (uF fv 34 f34) gv)) (va_A (mw h0 ad cs iv fv gv) sz)) 0 0 (va_A (mw h0 ad cs iv fv gv) sz) := by
  refine Met.ofW (cc := cX9_works) (maxL := 7) (ret := (some .int)) (by decide) rfl ?_
  intro p e s m args below meth c s₁ B hml hv
  obtain ⟨rfl, hsz, hP, hK, hD0⟩ := hv
  have hx := B.exec
  have hb := B.bytes
  have hr := B.returns
  have hts := atoms_spec (ws := wsX9_works) B.pre
  have hown : s.vm.findClass RX9 = some m.cls := findClass_of_methodNamed B.named
  have hlocks := B.notSynchronized
  subst hsz
  have hD := hD0.self (sz := s.heap.size)
  generalize hAe : va_A (mw h0 ad cs iv fv gv) s.heap.size = A at hD ⊢
  have hA : ∀ q : Nat, s.heap.size ≤ q → A q := fun q h => by rw [← hAe]; exact Or.inr h
  have hS : va_S A s.heap s.heap [] := va_S.rf
  have hin9 : ∀ w ∈ u_ws RX9 TX9 44, w ∈ wsX9_works := (fun _ h9 => List.mem_cons_of_mem _ ((List.mem_append_right _ h9)))
  have hl := lv_entry ([.ref h0, .int (nI t), .int (nI u)]) (n := 7) (Nat.le_of_ble_eq_true rfl)
  rw [lg_entry_eq]
  generalize (lg_sl ([.ref h0, .int (nI t), .int (nI u)]) ++ List.replicate (7 - (lg_sl ([.ref h0, .int (nI t), .int (nI u)])).length) Slot.unset).toArray = ls at hl ⊢
  have hl : lv_has ls 7 [(0, .ref h0), (1, .int (nI t)), (2, .int (nI u))] := hl
  obtain ⟨L9, n9, hL9, e20, hwf9⟩ := hC t ht9
  have hm0 := hwf9.go
  refine lv_iconst (v := 0) hx hb dX9_works_0 (by decide) ?_
  refine lv_istore_n (lv' := [(3, .int 0), (0, .ref h0), (1, .int (nI t)), (2, .int (nI u))]) hx hb dX9_works_1 rfl hl (by decide) rfl (fun ls hl => ?_)
  refine lv_sipush (v := 200) hx hb dX9_works_2 (by decide) ?_
  refine lv_iload_n hx hb dX9_works_5 rfl (lv_at hl 2 rfl) ?_
  refine lv_imul hx hb dX9_works_6 ?_
  refine tp_i (y := nI (200 * t)) (pk_mul 200 t) ?_
  refine lv_istore (lv' := [(4, .int (nI (200 * t))), (3, .int 0), (0, .ref h0), (1, .int (nI t)), (2, .int (nI u))]) hx hb dX9_works_7 hl (by decide) rfl (fun ls hl => ?_)
  refine lp_V (nL := 7) (σ := Nat × Nat × (Nat → Int32)) (lv := fun x9 => [(3, .int (nI x9.1)), (4, .int (nI x9.2.1)), (2, .int (nI u)), (1, .int (nI t)), (0, .ref h0)]) (μ := fun x9 => 200 * t + L9 - x9.2.1) (J := fun x9 ws9 => ws9 = (mw h0 ad cs iv (uF fv 34 x9.2.2) gv) ∧ (∃ m : Nat, wfc (fv 19) (200 * t + L9) m x9.2.1 x9.1) ∧ (200 * t ≤ x9.2.1) ∧ (x9.2.1 ≤ 200 * t + L9) ∧ (4 * x9.1 + 200 * t ≤ x9.2.1)) (fun x9 ws9 H locs ls hj hP hD hS hl ih_1 => ?_) (0, 200 * t, fv 34) (mw h0 ad cs iv fv gv) _ _ ls ⟨rfl, (show ∃ m : Nat, wfc (fv 19) (200 * t + L9) m (200 * t) 0 from hm0), (show 200 * t ≤ (200 * t) from by omega), (show (200 * t) ≤ 200 * t + L9 from by omega), (show 4 * 0 + 200 * t ≤ (200 * t) from by omega)⟩ hP hD hS (lv_sub hl [1, 0, 4, 3, 2] rfl)
  obtain ⟨n_2, k_3, g34_4⟩ := x9
  replace hj : ws9 = (mw h0 ad cs iv (uF fv 34 g34_4) gv) ∧ (∃ m : Nat, wfc (fv 19) (200 * t + L9) m k_3 n_2) ∧ (200 * t ≤ k_3) ∧ (k_3 ≤ 200 * t + L9) ∧ (4 * n_2 + 200 * t ≤ k_3) := hj
  obtain ⟨rfl, hwf_5, hk1_6, hk2_7, hn4_8⟩ := hj
  have hl : lv_has ls 7 [(3, .int (nI n_2)), (4, .int (nI k_3)), (2, .int (nI u)), (1, .int (nI t)), (0, .ref h0)] := hl
  refine lv_iload hx hb dX9_works_9 (lv_at hl 1 rfl) ?_
  refine lv_sipush (v := 200) hx hb dX9_works_11 (by decide) ?_
  refine lv_iload_n hx hb dX9_works_14 rfl (lv_at hl 3 rfl) ?_
  refine lv_imul hx hb dX9_works_15 ?_
  refine tp_i (y := nI (200 * t)) (pk_mul 200 t) ?_
  refine lv_aload_n hx hb dX9_works_16 rfl (lv_at hl 4 rfl) ?_
  refine va_get (D := D) (ci := 9) (v := .ref (ad 20)) (C := RX9) (T := TX9) (N := 44) hx hb hts hin9 hown hK hP 0 rfl rfl 20 (by decide) (hts (.fieldLink RX9 71 "HoneyHouseModel" "codeSize" "[I") (List.mem_of_getElem? (i := 1) rfl)) (fun _ h9 => h9) rfl dX9_works_17 ?_
  refine lv_iload_n hx hb dX9_works_20 rfl (lv_at hl 3 rfl) ?_
  refine va_iald (f := fv 20) (n := 16) hx hb hK hP 16 15 rfl rfl (vp_in_nI (n := t) (by omega) (by omega)) dX9_works_21 ?_
  refine lv_topi (fun z_9 hz_10 => ?_)
  rw [nI_clamp (n := t) (by omega)] at hz_10
  rw [e20] at hz_10
  subst hz_10
  refine lv_iadd hx hb dX9_works_22 ?_
  refine tp_i (y := nI ((200 * t) + L9)) (nI_add (200 * t) L9) ?_
  refine lv_icmp_ge (tgt := 195) hx hb dX9_works_23 (by decide) (fun c_11 => ?_) (fun c_11 => ?_)
  · have d_12 := n_le (a := (200 * t) + L9) (b := k_3) (by omega) (by omega) c_11
    refine lv_aload_n hx hb dX9_works_195 rfl (lv_at hl 4 rfl) ?_
    refine va_get (D := D) (ci := 9) (v := .ref (ad 34)) (C := RX9) (T := TX9) (N := 44) hx hb hts hin9 hown hK hP 0 rfl rfl 34 (by decide) (hts (.fieldLink RX9 114 "HoneyHouseModel" "held" "[I") (List.mem_of_getElem? (i := 3) rfl)) (fun _ h9 => h9) rfl dX9_works_196 ?_
    refine lv_iconst (v := 0) hx hb dX9_works_199 (by decide) ?_
    refine va_iald (f := g34_4) (n := 64) hx hb hK hP 22 21 rfl rfl (vp_in_iff.mpr (by decide)) dX9_works_200 ?_
    refine lv_topi (fun z_13 hz_14 => ?_)
    have hP : va_P D vwCl (mw h0 ad cs iv (uF fv 34 g34_4) gv) H := hP
    have hD : va_D A (mw h0 ad cs iv (uF fv 34 g34_4) gv) := hD
    exact W.iret (v := z_13) hx hb hr (fun t ht hW => ⟨⟨z_13, z_13, rfl, rfl, g34_4, by rw [ht]; exact hP, va_K.moved hW.alike hK, hD⟩, hS.F ht⟩) hS.2.2 dX9_works_201
  have d_15 := n_nle (a := (200 * t) + L9) (b := k_3) (by omega) (by omega) c_11
  obtain ⟨m9, hm9⟩ := hwf_5
  rcases hm9.step (by omega) with ⟨m_16, h4_17, e_18, ok_19, hw_20⟩ | ⟨m_16, e_18, h1_22, hw_20⟩ | ⟨m_16, e_18, n3_21, h1_22, hw_20⟩
  · refine lv_aload_n hx hb dX9_works_26 rfl (lv_at hl 4 rfl) ?_
    refine va_get (D := D) (ci := 9) (v := .ref (ad 19)) (C := RX9) (T := TX9) (N := 44) hx hb hts hin9 hown hK hP 0 rfl rfl 19 (by decide) (hts (.fieldLink RX9 68 "HoneyHouseModel" "code" "[I") (List.mem_of_getElem? (i := 2) rfl)) (fun _ h9 => h9) rfl dX9_works_27 ?_
    refine lv_iload hx hb dX9_works_30 (lv_at hl 1 rfl) ?_
    refine va_iald (f := fv 19) (n := 3200) hx hb hK hP 15 14 rfl rfl (vp_in_nI (n := k_3) (by omega) (by omega)) dX9_works_32 ?_
    refine lv_topi (fun z_23 hz_24 => ?_)
    rw [nI_clamp (n := k_3) (by omega)] at hz_24
    refine lv_istore (lv' := [(5, .int z_23), (3, .int (nI n_2)), (4, .int (nI k_3)), (2, .int (nI u)), (1, .int (nI t)), (0, .ref h0)]) hx hb dX9_works_33 hl (by decide) rfl (fun ls hl => ?_)
    refine lv_iinc (v := nI (k_3 + 1)) (lv' := [(4, .int (nI (k_3 + 1))), (5, .int z_23), (3, .int (nI n_2)), (2, .int (nI u)), (1, .int (nI t)), (0, .ref h0)]) hx hb dX9_works_35 hl (k := 2) rfl (nI_add k_3 1) (by decide) rfl (fun ls hl => ?_)
    refine lv_iload hx hb dX9_works_38 (lv_at hl 1 rfl) ?_
    refine lv_bipush (v := 13) hx hb dX9_works_40 (by decide) ?_
    refine lv_icmp_ne (tgt := 90) hx hb dX9_works_42 (by decide) (fun c_25 => absurd (hz_24.trans e_18) c_25) (fun c_25 => ?_)
    refine lv_aload_n hx hb dX9_works_45 rfl (lv_at hl 5 rfl) ?_
    refine va_get (D := D) (ci := 9) (v := .ref (ad 34)) (C := RX9) (T := TX9) (N := 44) hx hb hts hin9 hown hK hP 0 rfl rfl 34 (by decide) (hts (.fieldLink RX9 114 "HoneyHouseModel" "held" "[I") (List.mem_of_getElem? (i := 3) rfl)) (fun _ h9 => h9) rfl dX9_works_46 ?_
    refine lv_iload_n hx hb dX9_works_49 rfl (lv_at hl 2 rfl) ?_
    refine lv_aload_n hx hb dX9_works_50 rfl (lv_at hl 5 rfl) ?_
    refine lv_iload_n hx hb dX9_works_51 rfl (lv_at hl 3 rfl) ?_
    refine lv_aload_n hx hb dX9_works_52 rfl (lv_at hl 5 rfl) ?_
    refine va_get (D := D) (ci := 9) (v := .ref (ad 19)) (C := RX9) (T := TX9) (N := 44) hx hb hts hin9 hown hK hP 0 rfl rfl 19 (by decide) (hts (.fieldLink RX9 68 "HoneyHouseModel" "code" "[I") (List.mem_of_getElem? (i := 2) rfl)) (fun _ h9 => h9) rfl dX9_works_53 ?_
    refine lv_iload hx hb dX9_works_56 (lv_at hl 0 rfl) ?_
    refine va_iald (f := fv 19) (n := 3200) hx hb hK hP 15 14 rfl rfl (vp_in_nI (n := k_3 + 1) (by omega) (by omega)) dX9_works_58 ?_
    refine lv_topi (fun z_26 hz_27 => ?_)
    rw [nI_clamp (n := k_3 + 1) (by omega)] at hz_27
    obtain ⟨q_28, hq_29, eq_30⟩ := ok_19
    rw [eq_30] at hz_27
    subst hz_27
    refine lv_aload_n hx hb dX9_works_59 rfl (lv_at hl 5 rfl) ?_
    refine va_get (D := D) (ci := 9) (v := .ref (ad 19)) (C := RX9) (T := TX9) (N := 44) hx hb hts hin9 hown hK hP 0 rfl rfl 19 (by decide) (hts (.fieldLink RX9 68 "HoneyHouseModel" "code" "[I") (List.mem_of_getElem? (i := 2) rfl)) (fun _ h9 => h9) rfl dX9_works_60 ?_
    refine lv_iload hx hb dX9_works_63 (lv_at hl 0 rfl) ?_
    refine lv_iconst (v := 1) hx hb dX9_works_65 (by decide) ?_
    refine lv_iadd hx hb dX9_works_66 ?_
    refine tp_i (y := nI ((k_3 + 1) + 1)) (nI_add (k_3 + 1) 1) ?_
    refine va_iald (f := fv 19) (n := 3200) hx hb hK hP 15 14 rfl rfl (vp_in_nI (n := (k_3 + 1) + 1) (by omega) (by omega)) dX9_works_67 ?_
    refine lv_topi (fun z_31 hz_32 => ?_)
    refine lv_aload_n hx hb dX9_works_68 rfl (lv_at hl 5 rfl) ?_
    refine va_get (D := D) (ci := 9) (v := .ref (ad 19)) (C := RX9) (T := TX9) (N := 44) hx hb hts hin9 hown hK hP 0 rfl rfl 19 (by decide) (hts (.fieldLink RX9 68 "HoneyHouseModel" "code" "[I") (List.mem_of_getElem? (i := 2) rfl)) (fun _ h9 => h9) rfl dX9_works_69 ?_
    refine lv_iload hx hb dX9_works_72 (lv_at hl 0 rfl) ?_
    refine lv_iconst (v := 2) hx hb dX9_works_74 (by decide) ?_
    refine lv_iadd hx hb dX9_works_75 ?_
    refine tp_i (y := nI ((k_3 + 1) + 2)) (nI_add (k_3 + 1) 2) ?_
    refine va_iald (f := fv 19) (n := 3200) hx hb hK hP 15 14 rfl rfl (vp_in_nI (n := (k_3 + 1) + 2) (by omega) (by omega)) dX9_works_76 ?_
    refine lv_topi (fun z_33 hz_34 => ?_)
    refine vp_callSi (W.runV (As := [.int (nI u), .int (nI q_28), .int z_31, .int z_33]) (rest := [.int (nI n_2), .ref (ad 34)]) ⟨hx, hb, hml, hown, hts⟩ (m_tells l D h0 ad cs iv (uF fv 34 g34_4) gv n3 u q_28 z_31 z_33 h3 (by omega) (by omega) hq_29) (cwV 4 hts gX9_works_X9_tells rfl rfl rfl (by decide +kernel) ⟨Nat.le_of_ble_eq_true rfl, Nat.le_of_ble_eq_true rfl⟩) ⟨fun a U g mk q => ⟨q.1, q.2.1, va_K.moved (u := U) (U := U.calling g mk a) (Vm.Alike.refl U.vm) q.2.2⟩, va_recv hK hP (ci := 9) (q0 := 0) rfl rfl, fun U hU hW => ⟨rfl, by rw [hU]; exact hP, va_K.moved hW.alike hK⟩⟩ rfl rfl hl.1 rfl (lv_room (Nat.le_of_ble_eq_true rfl)) dX9_works_77 ⟨Nat.le_of_ble_eq_true rfl, Nat.le_of_ble_eq_true rfl⟩) (fun r_35 k_36 => ?_)
    refine va_iast (f := g34_4) (n := 64) hx hb hK hP hD hS 22 21 rfl rfl (vp_in_nI (n := n_2) (by omega) (by omega)) dX9_works_80 (fun H locs hP hD hS => ?_)
    have hP : va_P D vwCl (mw h0 ad cs iv (uF fv 34 (upd g34_4 (nI n_2).toNatClampNeg r_35)) gv) H := hP
    have hD : va_D A (mw h0 ad cs iv (uF fv 34 (upd g34_4 (nI n_2).toNatClampNeg r_35)) gv) := hD
    obtain ⟨f_37, hf_38⟩ : ∃ g9, g9 = upd g34_4 (nI n_2).toNatClampNeg r_35 := ⟨_, rfl⟩
    rw [← hf_38] at hP hD
    rw [nI_clamp (n := n_2) (by omega)] at hf_38
    refine lv_iinc (v := nI (n_2 + 1)) (lv' := [(3, .int (nI (n_2 + 1))), (4, .int (nI (k_3 + 1))), (5, .int z_23), (2, .int (nI u)), (1, .int (nI t)), (0, .ref h0)]) hx hb dX9_works_81 hl (k := 2) rfl (nI_add n_2 1) (by decide) rfl (fun ls hl => ?_)
    refine lv_iinc (v := nI (k_3 + 1 + 3)) (lv' := [(4, .int (nI (k_3 + 1 + 3))), (3, .int (nI (n_2 + 1))), (5, .int z_23), (2, .int (nI u)), (1, .int (nI t)), (0, .ref h0)]) hx hb dX9_works_84 hl (k := 1) rfl (nI_add (k_3 + 1) 3) (by decide) rfl (fun ls hl => ?_)
    refine lv_goto (tgt := 192) hx hb dX9_works_87 (by decide) ?_
    refine lv_goto (tgt := 9) hx hb dX9_works_192 (by decide) ?_
    exact ih_1 (n_2 + 1, k_3 + 1 + 3, f_37) (mw h0 ad cs iv (uF fv 34 f_37) gv) _ _ ls (by show 200 * t + L9 - (k_3 + 1 + 3) < 200 * t + L9 - k_3; omega) ⟨rfl, (show ∃ m : Nat, wfc (fv 19) (200 * t + L9) m (k_3 + 1 + 3) (n_2 + 1) from ⟨_, hw_20⟩), (show 200 * t ≤ (k_3 + 1 + 3) from by omega), (show (k_3 + 1 + 3) ≤ 200 * t + L9 from by omega), (show 4 * (n_2 + 1) + 200 * t ≤ (k_3 + 1 + 3) from by omega)⟩ hP hD hS (lv_sub hl [1, 0, 3, 4, 5] rfl)
  · refine lv_aload_n hx hb dX9_works_26 rfl (lv_at hl 4 rfl) ?_
    refine va_get (D := D) (ci := 9) (v := .ref (ad 19)) (C := RX9) (T := TX9) (N := 44) hx hb hts hin9 hown hK hP 0 rfl rfl 19 (by decide) (hts (.fieldLink RX9 68 "HoneyHouseModel" "code" "[I") (List.mem_of_getElem? (i := 2) rfl)) (fun _ h9 => h9) rfl dX9_works_27 ?_
    refine lv_iload hx hb dX9_works_30 (lv_at hl 1 rfl) ?_
    refine va_iald (f := fv 19) (n := 3200) hx hb hK hP 15 14 rfl rfl (vp_in_nI (n := k_3) (by omega) (by omega)) dX9_works_32 ?_
    refine lv_topi (fun z_39 hz_40 => ?_)
    rw [nI_clamp (n := k_3) (by omega)] at hz_40
    refine lv_istore (lv' := [(5, .int z_39), (3, .int (nI n_2)), (4, .int (nI k_3)), (2, .int (nI u)), (1, .int (nI t)), (0, .ref h0)]) hx hb dX9_works_33 hl (by decide) rfl (fun ls hl => ?_)
    refine lv_iinc (v := nI (k_3 + 1)) (lv' := [(4, .int (nI (k_3 + 1))), (5, .int z_39), (3, .int (nI n_2)), (2, .int (nI u)), (1, .int (nI t)), (0, .ref h0)]) hx hb dX9_works_35 hl (k := 2) rfl (nI_add k_3 1) (by decide) rfl (fun ls hl => ?_)
    refine lv_iload hx hb dX9_works_38 (lv_at hl 1 rfl) ?_
    refine lv_bipush (v := 13) hx hb dX9_works_40 (by decide) ?_
    refine lv_icmp_ne (tgt := 90) hx hb dX9_works_42 (by decide) (fun c_41 => ?_) (fun c_41 => absurd c_41 (fun h9 => i3_13 (e_18.symm.trans (hz_40.symm.trans h9))))
    refine lv_iload hx hb dX9_works_90 (lv_at hl 1 rfl) ?_
    refine lv_iconst (v := 3) hx hb dX9_works_92 (by decide) ?_
    refine lv_icmp_ne (tgt := 142) hx hb dX9_works_93 (by decide) (fun c_42 => absurd (hz_40.trans e_18) c_42) (fun c_42 => ?_)
    refine lv_aload_n hx hb dX9_works_96 rfl (lv_at hl 5 rfl) ?_
    refine va_get (D := D) (ci := 9) (v := .ref (ad 34)) (C := RX9) (T := TX9) (N := 44) hx hb hts hin9 hown hK hP 0 rfl rfl 34 (by decide) (hts (.fieldLink RX9 114 "HoneyHouseModel" "held" "[I") (List.mem_of_getElem? (i := 3) rfl)) (fun _ h9 => h9) rfl dX9_works_97 ?_
    refine lv_iload_n hx hb dX9_works_100 rfl (lv_at hl 2 rfl) ?_
    refine lv_iconst (v := 1) hx hb dX9_works_101 (by decide) ?_
    refine lv_isub hx hb dX9_works_102 ?_
    refine tp_i (y := nI (n_2 - 1)) (pk_sub (a := n_2) (b := 1) (by omega)) ?_
    refine va_iald (f := g34_4) (n := 64) hx hb hK hP 22 21 rfl rfl (vp_in_nI (n := n_2 - 1) (by omega) (by omega)) dX9_works_103 ?_
    refine lv_topi (fun z_43 hz_44 => ?_)
    refine lv_istore (lv' := [(6, .int z_43), (4, .int (nI (k_3 + 1))), (5, .int z_39), (3, .int (nI n_2)), (2, .int (nI u)), (1, .int (nI t)), (0, .ref h0)]) hx hb dX9_works_104 hl (by decide) rfl (fun ls hl => ?_)
    refine lv_aload_n hx hb dX9_works_106 rfl (lv_at hl 6 rfl) ?_
    refine va_get (D := D) (ci := 9) (v := .ref (ad 34)) (C := RX9) (T := TX9) (N := 44) hx hb hts hin9 hown hK hP 0 rfl rfl 34 (by decide) (hts (.fieldLink RX9 114 "HoneyHouseModel" "held" "[I") (List.mem_of_getElem? (i := 3) rfl)) (fun _ h9 => h9) rfl dX9_works_107 ?_
    refine lv_iload_n hx hb dX9_works_110 rfl (lv_at hl 3 rfl) ?_
    refine lv_iconst (v := 1) hx hb dX9_works_111 (by decide) ?_
    refine lv_isub hx hb dX9_works_112 ?_
    refine tp_i (y := nI (n_2 - 1)) (pk_sub (a := n_2) (b := 1) (by omega)) ?_
    refine lv_iload hx hb dX9_works_113 (lv_at hl 0 rfl) ?_
    refine lv_iconst (v := 1) hx hb dX9_works_115 (by decide) ?_
    refine lv_iand hx hb dX9_works_116 ?_
    refine lv_if_ne (tgt := 124) hx hb dX9_works_117 (by decide) (fun c_45 => ?_) (fun c_45 => ?_)
    · refine lv_iconst (v := 0) hx hb dX9_works_124 (by decide) ?_
      refine lv_iload hx hb dX9_works_125 (lv_at hl 0 rfl) ?_
      refine lv_iconst (v := 2) hx hb dX9_works_127 (by decide) ?_
      refine lv_iand hx hb dX9_works_128 ?_
      refine lv_if_ne (tgt := 136) hx hb dX9_works_129 (by decide) (fun c_46 => ?_) (fun c_46 => ?_)
      · refine lv_iconst (v := 0) hx hb dX9_works_136 (by decide) ?_
        refine lv_iadd hx hb dX9_works_137 ?_
        refine tp_i (y := 0) (by decide) ?_
        refine va_iast (f := g34_4) (n := 64) hx hb hK hP hD hS 22 21 rfl rfl (vp_in_nI (n := n_2 - 1) (by omega) (by omega)) dX9_works_138 (fun H locs hP hD hS => ?_)
        have hP : va_P D vwCl (mw h0 ad cs iv (uF fv 34 (upd g34_4 (nI (n_2 - 1)).toNatClampNeg 0)) gv) H := hP
        have hD : va_D A (mw h0 ad cs iv (uF fv 34 (upd g34_4 (nI (n_2 - 1)).toNatClampNeg 0)) gv) := hD
        obtain ⟨f_47, hf_48⟩ : ∃ g9, g9 = upd g34_4 (nI (n_2 - 1)).toNatClampNeg 0 := ⟨_, rfl⟩
        rw [← hf_48] at hP hD
        rw [nI_clamp (n := n_2 - 1) (by omega)] at hf_48
        refine lv_goto (tgt := 192) hx hb dX9_works_139 (by decide) ?_
        refine lv_goto (tgt := 9) hx hb dX9_works_192 (by decide) ?_
        exact ih_1 (n_2, k_3 + 1, f_47) (mw h0 ad cs iv (uF fv 34 f_47) gv) _ _ ls (by show 200 * t + L9 - (k_3 + 1) < 200 * t + L9 - k_3; omega) ⟨rfl, (show ∃ m : Nat, wfc (fv 19) (200 * t + L9) m (k_3 + 1) n_2 from ⟨_, hw_20⟩), (show 200 * t ≤ (k_3 + 1) from by omega), (show (k_3 + 1) ≤ 200 * t + L9 from by omega), (show 4 * n_2 + 200 * t ≤ (k_3 + 1) from by omega)⟩ hP hD hS (lv_sub hl [3, 1, 4, 5, 6] rfl)
      refine lv_iconst (v := 1) hx hb dX9_works_132 (by decide) ?_
      refine lv_goto (tgt := 137) hx hb dX9_works_133 (by decide) ?_
      refine lv_iadd hx hb dX9_works_137 ?_
      refine tp_i (y := 1) (by decide) ?_
      refine va_iast (f := g34_4) (n := 64) hx hb hK hP hD hS 22 21 rfl rfl (vp_in_nI (n := n_2 - 1) (by omega) (by omega)) dX9_works_138 (fun H locs hP hD hS => ?_)
      have hP : va_P D vwCl (mw h0 ad cs iv (uF fv 34 (upd g34_4 (nI (n_2 - 1)).toNatClampNeg 1)) gv) H := hP
      have hD : va_D A (mw h0 ad cs iv (uF fv 34 (upd g34_4 (nI (n_2 - 1)).toNatClampNeg 1)) gv) := hD
      obtain ⟨f_49, hf_50⟩ : ∃ g9, g9 = upd g34_4 (nI (n_2 - 1)).toNatClampNeg 1 := ⟨_, rfl⟩
      rw [← hf_50] at hP hD
      rw [nI_clamp (n := n_2 - 1) (by omega)] at hf_50
      refine lv_goto (tgt := 192) hx hb dX9_works_139 (by decide) ?_
      refine lv_goto (tgt := 9) hx hb dX9_works_192 (by decide) ?_
      exact ih_1 (n_2, k_3 + 1, f_49) (mw h0 ad cs iv (uF fv 34 f_49) gv) _ _ ls (by show 200 * t + L9 - (k_3 + 1) < 200 * t + L9 - k_3; omega) ⟨rfl, (show ∃ m : Nat, wfc (fv 19) (200 * t + L9) m (k_3 + 1) n_2 from ⟨_, hw_20⟩), (show 200 * t ≤ (k_3 + 1) from by omega), (show (k_3 + 1) ≤ 200 * t + L9 from by omega), (show 4 * n_2 + 200 * t ≤ (k_3 + 1) from by omega)⟩ hP hD hS (lv_sub hl [3, 1, 4, 5, 6] rfl)
    refine lv_iconst (v := 2) hx hb dX9_works_120 (by decide) ?_
    refine lv_goto (tgt := 125) hx hb dX9_works_121 (by decide) ?_
    refine lv_iload hx hb dX9_works_125 (lv_at hl 0 rfl) ?_
    refine lv_iconst (v := 2) hx hb dX9_works_127 (by decide) ?_
    refine lv_iand hx hb dX9_works_128 ?_
    refine lv_if_ne (tgt := 136) hx hb dX9_works_129 (by decide) (fun c_51 => ?_) (fun c_51 => ?_)
    · refine lv_iconst (v := 0) hx hb dX9_works_136 (by decide) ?_
      refine lv_iadd hx hb dX9_works_137 ?_
      refine tp_i (y := 2) (by decide) ?_
      refine va_iast (f := g34_4) (n := 64) hx hb hK hP hD hS 22 21 rfl rfl (vp_in_nI (n := n_2 - 1) (by omega) (by omega)) dX9_works_138 (fun H locs hP hD hS => ?_)
      have hP : va_P D vwCl (mw h0 ad cs iv (uF fv 34 (upd g34_4 (nI (n_2 - 1)).toNatClampNeg 2)) gv) H := hP
      have hD : va_D A (mw h0 ad cs iv (uF fv 34 (upd g34_4 (nI (n_2 - 1)).toNatClampNeg 2)) gv) := hD
      obtain ⟨f_52, hf_53⟩ : ∃ g9, g9 = upd g34_4 (nI (n_2 - 1)).toNatClampNeg 2 := ⟨_, rfl⟩
      rw [← hf_53] at hP hD
      rw [nI_clamp (n := n_2 - 1) (by omega)] at hf_53
      refine lv_goto (tgt := 192) hx hb dX9_works_139 (by decide) ?_
      refine lv_goto (tgt := 9) hx hb dX9_works_192 (by decide) ?_
      exact ih_1 (n_2, k_3 + 1, f_52) (mw h0 ad cs iv (uF fv 34 f_52) gv) _ _ ls (by show 200 * t + L9 - (k_3 + 1) < 200 * t + L9 - k_3; omega) ⟨rfl, (show ∃ m : Nat, wfc (fv 19) (200 * t + L9) m (k_3 + 1) n_2 from ⟨_, hw_20⟩), (show 200 * t ≤ (k_3 + 1) from by omega), (show (k_3 + 1) ≤ 200 * t + L9 from by omega), (show 4 * n_2 + 200 * t ≤ (k_3 + 1) from by omega)⟩ hP hD hS (lv_sub hl [3, 1, 4, 5, 6] rfl)
    refine lv_iconst (v := 1) hx hb dX9_works_132 (by decide) ?_
    refine lv_goto (tgt := 137) hx hb dX9_works_133 (by decide) ?_
    refine lv_iadd hx hb dX9_works_137 ?_
    refine tp_i (y := 3) (by decide) ?_
    refine va_iast (f := g34_4) (n := 64) hx hb hK hP hD hS 22 21 rfl rfl (vp_in_nI (n := n_2 - 1) (by omega) (by omega)) dX9_works_138 (fun H locs hP hD hS => ?_)
    have hP : va_P D vwCl (mw h0 ad cs iv (uF fv 34 (upd g34_4 (nI (n_2 - 1)).toNatClampNeg 3)) gv) H := hP
    have hD : va_D A (mw h0 ad cs iv (uF fv 34 (upd g34_4 (nI (n_2 - 1)).toNatClampNeg 3)) gv) := hD
    obtain ⟨f_54, hf_55⟩ : ∃ g9, g9 = upd g34_4 (nI (n_2 - 1)).toNatClampNeg 3 := ⟨_, rfl⟩
    rw [← hf_55] at hP hD
    rw [nI_clamp (n := n_2 - 1) (by omega)] at hf_55
    refine lv_goto (tgt := 192) hx hb dX9_works_139 (by decide) ?_
    refine lv_goto (tgt := 9) hx hb dX9_works_192 (by decide) ?_
    exact ih_1 (n_2, k_3 + 1, f_54) (mw h0 ad cs iv (uF fv 34 f_54) gv) _ _ ls (by show 200 * t + L9 - (k_3 + 1) < 200 * t + L9 - k_3; omega) ⟨rfl, (show ∃ m : Nat, wfc (fv 19) (200 * t + L9) m (k_3 + 1) n_2 from ⟨_, hw_20⟩), (show 200 * t ≤ (k_3 + 1) from by omega), (show (k_3 + 1) ≤ 200 * t + L9 from by omega), (show 4 * n_2 + 200 * t ≤ (k_3 + 1) from by omega)⟩ hP hD hS (lv_sub hl [3, 1, 4, 5, 6] rfl)
  refine lv_aload_n hx hb dX9_works_26 rfl (lv_at hl 4 rfl) ?_
  refine va_get (D := D) (ci := 9) (v := .ref (ad 19)) (C := RX9) (T := TX9) (N := 44) hx hb hts hin9 hown hK hP 0 rfl rfl 19 (by decide) (hts (.fieldLink RX9 68 "HoneyHouseModel" "code" "[I") (List.mem_of_getElem? (i := 2) rfl)) (fun _ h9 => h9) rfl dX9_works_27 ?_
  refine lv_iload hx hb dX9_works_30 (lv_at hl 1 rfl) ?_
  refine va_iald (f := fv 19) (n := 3200) hx hb hK hP 15 14 rfl rfl (vp_in_nI (n := k_3) (by omega) (by omega)) dX9_works_32 ?_
  refine lv_topi (fun z_56 hz_57 => ?_)
  rw [nI_clamp (n := k_3) (by omega)] at hz_57
  refine lv_istore (lv' := [(5, .int z_56), (3, .int (nI n_2)), (4, .int (nI k_3)), (2, .int (nI u)), (1, .int (nI t)), (0, .ref h0)]) hx hb dX9_works_33 hl (by decide) rfl (fun ls hl => ?_)
  refine lv_iinc (v := nI (k_3 + 1)) (lv' := [(4, .int (nI (k_3 + 1))), (5, .int z_56), (3, .int (nI n_2)), (2, .int (nI u)), (1, .int (nI t)), (0, .ref h0)]) hx hb dX9_works_35 hl (k := 2) rfl (nI_add k_3 1) (by decide) rfl (fun ls hl => ?_)
  refine lv_iload hx hb dX9_works_38 (lv_at hl 1 rfl) ?_
  refine lv_bipush (v := 13) hx hb dX9_works_40 (by decide) ?_
  refine lv_icmp_ne (tgt := 90) hx hb dX9_works_42 (by decide) (fun c_58 => ?_) (fun c_58 => absurd c_58 (fun h9 => e_18 (hz_57.symm.trans h9)))
  refine lv_iload hx hb dX9_works_90 (lv_at hl 1 rfl) ?_
  refine lv_iconst (v := 3) hx hb dX9_works_92 (by decide) ?_
  refine lv_icmp_ne (tgt := 142) hx hb dX9_works_93 (by decide) (fun c_59 => ?_) (fun c_59 => absurd c_59 (fun h9 => n3_21 (hz_57.symm.trans h9)))
  refine lv_iinc (v := nI (n_2 - 1)) (lv' := [(3, .int (nI (n_2 - 1))), (4, .int (nI (k_3 + 1))), (5, .int z_56), (2, .int (nI u)), (1, .int (nI t)), (0, .ref h0)]) hx hb dX9_works_142 hl (k := 2) rfl (sb_m1 (by omega)) (by decide) rfl (fun ls hl => ?_)
  refine lv_aload_n hx hb dX9_works_145 rfl (lv_at hl 5 rfl) ?_
  refine va_get (D := D) (ci := 9) (v := .ref (ad 34)) (C := RX9) (T := TX9) (N := 44) hx hb hts hin9 hown hK hP 0 rfl rfl 34 (by decide) (hts (.fieldLink RX9 114 "HoneyHouseModel" "held" "[I") (List.mem_of_getElem? (i := 3) rfl)) (fun _ h9 => h9) rfl dX9_works_146 ?_
  refine lv_iload_n hx hb dX9_works_149 rfl (lv_at hl 0 rfl) ?_
  refine lv_iconst (v := 1) hx hb dX9_works_150 (by decide) ?_
  refine lv_isub hx hb dX9_works_151 ?_
  refine tp_i (y := nI ((n_2 - 1) - 1)) (pk_sub (a := n_2 - 1) (b := 1) (by omega)) ?_
  refine lv_iload hx hb dX9_works_152 (lv_at hl 2 rfl) ?_
  refine lv_iconst (v := 2) hx hb dX9_works_154 (by decide) ?_
  refine lv_icmp_ne (tgt := 176) hx hb dX9_works_155 (by decide) (fun c_60 => ?_) (fun c_60 => ?_)
  · refine lv_aload_n hx hb dX9_works_176 rfl (lv_at hl 5 rfl) ?_
    refine va_get (D := D) (ci := 9) (v := .ref (ad 34)) (C := RX9) (T := TX9) (N := 44) hx hb hts hin9 hown hK hP 0 rfl rfl 34 (by decide) (hts (.fieldLink RX9 114 "HoneyHouseModel" "held" "[I") (List.mem_of_getElem? (i := 3) rfl)) (fun _ h9 => h9) rfl dX9_works_177 ?_
    refine lv_iload_n hx hb dX9_works_180 rfl (lv_at hl 0 rfl) ?_
    refine lv_iconst (v := 1) hx hb dX9_works_181 (by decide) ?_
    refine lv_isub hx hb dX9_works_182 ?_
    refine tp_i (y := nI ((n_2 - 1) - 1)) (pk_sub (a := n_2 - 1) (b := 1) (by omega)) ?_
    refine va_iald (f := g34_4) (n := 64) hx hb hK hP 22 21 rfl rfl (vp_in_nI (n := (n_2 - 1) - 1) (by omega) (by omega)) dX9_works_183 ?_
    refine lv_topi (fun z_61 hz_62 => ?_)
    refine lv_aload_n hx hb dX9_works_184 rfl (lv_at hl 5 rfl) ?_
    refine va_get (D := D) (ci := 9) (v := .ref (ad 34)) (C := RX9) (T := TX9) (N := 44) hx hb hts hin9 hown hK hP 0 rfl rfl 34 (by decide) (hts (.fieldLink RX9 114 "HoneyHouseModel" "held" "[I") (List.mem_of_getElem? (i := 3) rfl)) (fun _ h9 => h9) rfl dX9_works_185 ?_
    refine lv_iload_n hx hb dX9_works_188 rfl (lv_at hl 0 rfl) ?_
    refine va_iald (f := g34_4) (n := 64) hx hb hK hP 22 21 rfl rfl (vp_in_nI (n := n_2 - 1) (by omega) (by omega)) dX9_works_189 ?_
    refine lv_topi (fun z_63 hz_64 => ?_)
    refine lv_ior hx hb dX9_works_190 ?_
    refine va_iast (f := g34_4) (n := 64) hx hb hK hP hD hS 22 21 rfl rfl (vp_in_nI (n := (n_2 - 1) - 1) (by omega) (by omega)) dX9_works_191 (fun H locs hP hD hS => ?_)
    have hP : va_P D vwCl (mw h0 ad cs iv (uF fv 34 (upd g34_4 (nI ((n_2 - 1) - 1)).toNatClampNeg (z_61 ||| z_63))) gv) H := hP
    have hD : va_D A (mw h0 ad cs iv (uF fv 34 (upd g34_4 (nI ((n_2 - 1) - 1)).toNatClampNeg (z_61 ||| z_63))) gv) := hD
    obtain ⟨f_65, hf_66⟩ : ∃ g9, g9 = upd g34_4 (nI ((n_2 - 1) - 1)).toNatClampNeg (z_61 ||| z_63) := ⟨_, rfl⟩
    rw [← hf_66] at hP hD
    rw [nI_clamp (n := (n_2 - 1) - 1) (by omega)] at hf_66
    refine lv_goto (tgt := 9) hx hb dX9_works_192 (by decide) ?_
    exact ih_1 (n_2 - 1, k_3 + 1, f_65) (mw h0 ad cs iv (uF fv 34 f_65) gv) _ _ ls (by show 200 * t + L9 - (k_3 + 1) < 200 * t + L9 - k_3; omega) ⟨rfl, (show ∃ m : Nat, wfc (fv 19) (200 * t + L9) m (k_3 + 1) (n_2 - 1) from ⟨_, hw_20⟩), (show 200 * t ≤ (k_3 + 1) from by omega), (show (k_3 + 1) ≤ 200 * t + L9 from by omega), (show 4 * (n_2 - 1) + 200 * t ≤ (k_3 + 1) from by omega)⟩ hP hD hS (lv_sub hl [0, 1, 3, 4, 5] rfl)
  refine lv_aload_n hx hb dX9_works_158 rfl (lv_at hl 5 rfl) ?_
  refine va_get (D := D) (ci := 9) (v := .ref (ad 34)) (C := RX9) (T := TX9) (N := 44) hx hb hts hin9 hown hK hP 0 rfl rfl 34 (by decide) (hts (.fieldLink RX9 114 "HoneyHouseModel" "held" "[I") (List.mem_of_getElem? (i := 3) rfl)) (fun _ h9 => h9) rfl dX9_works_159 ?_
  refine lv_iload_n hx hb dX9_works_162 rfl (lv_at hl 0 rfl) ?_
  refine lv_iconst (v := 1) hx hb dX9_works_163 (by decide) ?_
  refine lv_isub hx hb dX9_works_164 ?_
  refine tp_i (y := nI ((n_2 - 1) - 1)) (pk_sub (a := n_2 - 1) (b := 1) (by omega)) ?_
  refine va_iald (f := g34_4) (n := 64) hx hb hK hP 22 21 rfl rfl (vp_in_nI (n := (n_2 - 1) - 1) (by omega) (by omega)) dX9_works_165 ?_
  refine lv_topi (fun z_67 hz_68 => ?_)
  refine lv_aload_n hx hb dX9_works_166 rfl (lv_at hl 5 rfl) ?_
  refine va_get (D := D) (ci := 9) (v := .ref (ad 34)) (C := RX9) (T := TX9) (N := 44) hx hb hts hin9 hown hK hP 0 rfl rfl 34 (by decide) (hts (.fieldLink RX9 114 "HoneyHouseModel" "held" "[I") (List.mem_of_getElem? (i := 3) rfl)) (fun _ h9 => h9) rfl dX9_works_167 ?_
  refine lv_iload_n hx hb dX9_works_170 rfl (lv_at hl 0 rfl) ?_
  refine va_iald (f := g34_4) (n := 64) hx hb hK hP 22 21 rfl rfl (vp_in_nI (n := n_2 - 1) (by omega) (by omega)) dX9_works_171 ?_
  refine lv_topi (fun z_69 hz_70 => ?_)
  refine lv_iand hx hb dX9_works_172 ?_
  refine lv_goto (tgt := 191) hx hb dX9_works_173 (by decide) ?_
  refine va_iast (f := g34_4) (n := 64) hx hb hK hP hD hS 22 21 rfl rfl (vp_in_nI (n := (n_2 - 1) - 1) (by omega) (by omega)) dX9_works_191 (fun H locs hP hD hS => ?_)
  have hP : va_P D vwCl (mw h0 ad cs iv (uF fv 34 (upd g34_4 (nI ((n_2 - 1) - 1)).toNatClampNeg (z_67 &&& z_69))) gv) H := hP
  have hD : va_D A (mw h0 ad cs iv (uF fv 34 (upd g34_4 (nI ((n_2 - 1) - 1)).toNatClampNeg (z_67 &&& z_69))) gv) := hD
  obtain ⟨f_71, hf_72⟩ : ∃ g9, g9 = upd g34_4 (nI ((n_2 - 1) - 1)).toNatClampNeg (z_67 &&& z_69) := ⟨_, rfl⟩
  rw [← hf_72] at hP hD
  rw [nI_clamp (n := (n_2 - 1) - 1) (by omega)] at hf_72
  refine lv_goto (tgt := 9) hx hb dX9_works_192 (by decide) ?_
  exact ih_1 (n_2 - 1, k_3 + 1, f_71) (mw h0 ad cs iv (uF fv 34 f_71) gv) _ _ ls (by show 200 * t + L9 - (k_3 + 1) < 200 * t + L9 - k_3; omega) ⟨rfl, (show ∃ m : Nat, wfc (fv 19) (200 * t + L9) m (k_3 + 1) (n_2 - 1) from ⟨_, hw_20⟩), (show 200 * t ≤ (k_3 + 1) from by omega), (show (k_3 + 1) ≤ 200 * t + L9 from by omega), (show 4 * (n_2 - 1) + 200 * t ≤ (k_3 + 1) from by omega)⟩ hP hD hS (lv_sub hl [0, 1, 3, 4, 5] rfl)
set_option maxHeartbeats 4000000 in
set_option maxRecDepth 100000 in
theorem m_says (l : Launch) (D : va_G) (h0 : Nat) (ad : Nat → Nat) (cs : Nat → ClassId) (iv : Nat → Int32) (fv : Nat → Nat → Int32) (gv : Nat → Int64) (n3 n13 n14 : Nat) (a1 a2 a3 : Int32) (sz : Nat) (h3 : iv 3 = nI n3) (h13 : iv 13 = nI n13) (h14 : iv 14 = nI n14) (b3 : n3 ≤ 40) (b13 : n13 ≤ 60) (b14 : n14 ≤ 16) (hC : ∀ i : Nat, i < n14 → ∃ k n : Nat, k ≤ 200 ∧ fv 20 i = nI k ∧ wfs (fv 19) (200 * i) k n) : Met l yX9_says wsX9_says ({ frames := 3, cells := 0, slots := 0, locals := 80 }) (va_Pc [.ref h0, .int a1, .int a2, .int a3] (fun U => U.heap.size = sz ∧ va_P D vwCl (mw h0 ad cs iv fv gv) U.heap ∧ va_K D vwCl (mT cs) U ∧ va_D (fun _ => True) (mw h0 ad cs iv fv gv))) (va_Qi (fun (r u : Int32) => r = u) (fun (r : Int32) (t : State) => ∃ (f34 : Nat → Int32), va_P D vwCl (mw h0 ad cs iv (uF fv 34 f34) gv) t.heap ∧ va_K D vwCl (mT cs) t ∧ va_D (va_A (mw h0 ad cs iv fv gv) sz) (mw h0 ad cs iv (uF fv 34 f34) gv)) (va_A (mw h0 ad cs iv fv gv) sz)) 0 0 (va_A (mw h0 ad cs iv fv gv) sz) := by
  refine Met.ofW (cc := cX9_says) (maxL := 6) (ret := (some .int)) (by decide) rfl ?_
  intro p e s m args below meth c s₁ B hml hv
  obtain ⟨rfl, hsz, hP, hK, hD0⟩ := hv
  have hx := B.exec
  have hb := B.bytes
  have hr := B.returns
  have hts := atoms_spec (ws := wsX9_says) B.pre
  have hown : s.vm.findClass RX9 = some m.cls := findClass_of_methodNamed B.named
  have hlocks := B.notSynchronized
  subst hsz
  have hD := hD0.self (sz := s.heap.size)
  generalize hAe : va_A (mw h0 ad cs iv fv gv) s.heap.size = A at hD ⊢
  have hA : ∀ q : Nat, s.heap.size ≤ q → A q := fun q h => by rw [← hAe]; exact Or.inr h
  have hS : va_S A s.heap s.heap [] := va_S.rf
  have hin9 : ∀ w ∈ u_ws RX9 TX9 44, w ∈ wsX9_says := (fun _ h9 => List.mem_cons_of_mem _ ((List.mem_append_right _ h9)))
  have hl := lv_entry ([.ref h0, .int a1, .int a2, .int a3]) (n := 6) (Nat.le_of_ble_eq_true rfl)
  rw [lg_entry_eq]
  generalize (lg_sl ([.ref h0, .int a1, .int a2, .int a3]) ++ List.replicate (6 - (lg_sl ([.ref h0, .int a1, .int a2, .int a3])).length) Slot.unset).toArray = ls at hl ⊢
  have hl : lv_has ls 6 [(0, .ref h0), (1, .int a1), (2, .int a2), (3, .int a3)] := hl
  refine lv_aload_n hx hb dX9_says_0 rfl (lv_at hl 0 rfl) ?_
  refine lv_iload_n hx hb dX9_says_1 rfl (lv_at hl 2 rfl) ?_
  refine lv_iload_n hx hb dX9_says_2 rfl (lv_at hl 3 rfl) ?_
  refine vp_callSi (W.runV (As := [.int a2, .int a3]) (rest := []) ⟨hx, hb, hml, hown, hts⟩ (m_row l D h0 ad cs iv fv gv n13 a2 a3 h13 (by omega)) (cwV 2 hts gX9_says_X9_row rfl rfl rfl (by decide +kernel) ⟨Nat.le_of_ble_eq_true rfl, Nat.le_of_ble_eq_true rfl⟩) ⟨fun a U g mk q => ⟨q.1, q.2.1, va_K.moved (u := U) (U := U.calling g mk a) (Vm.Alike.refl U.vm) q.2.2⟩, va_recv hK hP (ci := 9) (q0 := 0) rfl rfl, fun U hU hW => ⟨rfl, by rw [hU]; exact hP, va_K.moved hW.alike hK⟩⟩ rfl rfl hl.1 rfl (lv_room (Nat.le_of_ble_eq_true rfl)) dX9_says_3 ⟨Nat.le_of_ble_eq_true rfl, Nat.le_of_ble_eq_true rfl⟩) (fun r_1 k_2 => ?_)
  rcases k_2 with ⟨rN_5, rfl⟩ | ⟨rN_5, hr_6, hj_7⟩
  · refine lv_istore (lv' := [(4, .int (-1)), (0, .ref h0), (1, .int a1), (2, .int a2), (3, .int a3)]) hx hb dX9_says_6 hl (by decide) rfl (fun ls hl => ?_)
    refine lv_iload_n hx hb dX9_says_8 rfl (lv_at hl 2 rfl) ?_
    refine lv_if_lt (tgt := 34) hx hb dX9_says_9 (by decide) (fun c_8 => ?_) (fun c_8 => ?_)
    · refine lv_iconst (v := (-1)) hx hb dX9_says_34 (by decide) ?_
      have hP : va_P D vwCl (mw h0 ad cs iv (uF fv 34 (fv 34)) gv) s.heap := hP
      have hD : va_D A (mw h0 ad cs iv (uF fv 34 (fv 34)) gv) := hD
      exact W.iret (v := (-1)) hx hb hr (fun t ht hW => ⟨⟨(-1), (-1), rfl, rfl, fv 34, by rw [ht]; exact hP, va_K.moved hW.alike hK, hD⟩, hS.F ht⟩) hS.2.2 dX9_says_35
    refine lv_iload_n hx hb dX9_says_12 rfl (lv_at hl 2 rfl) ?_
    refine lv_aload_n hx hb dX9_says_13 rfl (lv_at hl 1 rfl) ?_
    refine va_get (D := D) (ci := 9) (v := .int (iv 14)) (C := RX9) (T := TX9) (N := 44) hx hb hts hin9 hown hK hP 0 rfl rfl 14 (by decide) (hts (.fieldLink RX9 53 "HoneyHouseModel" "rules" "I") (List.mem_of_getElem? (i := 1) rfl)) (fun _ h9 => h9) rfl dX9_says_14 ?_
    refine tp_i (y := nI n14) (h14) ?_
    refine lv_icmp_ge (tgt := 34) hx hb dX9_says_17 (by decide) (fun c_9 => ?_) (fun c_9 => ?_)
    · refine lv_iconst (v := (-1)) hx hb dX9_says_34 (by decide) ?_
      have hP : va_P D vwCl (mw h0 ad cs iv (uF fv 34 (fv 34)) gv) s.heap := hP
      have hD : va_D A (mw h0 ad cs iv (uF fv 34 (fv 34)) gv) := hD
      exact W.iret (v := (-1)) hx hb hr (fun t ht hW => ⟨⟨(-1), (-1), rfl, rfl, fv 34, by rw [ht]; exact hP, va_K.moved hW.alike hK, hD⟩, hS.F ht⟩) hS.2.2 dX9_says_35
    obtain ⟨j_10, hj_11, rfl⟩ := ls_nat c_8 c_9 (by omega)
    refine lv_iload hx hb dX9_says_20 (lv_at hl 0 rfl) ?_
    refine lv_if_lt (tgt := 34) hx hb dX9_says_22 (by decide) (fun c_12 => ?_) (fun c_12 => absurd (by decide) c_12)
    refine lv_iconst (v := (-1)) hx hb dX9_says_34 (by decide) ?_
    have hP : va_P D vwCl (mw h0 ad cs iv (uF fv 34 (fv 34)) gv) s.heap := hP
    have hD : va_D A (mw h0 ad cs iv (uF fv 34 (fv 34)) gv) := hD
    exact W.iret (v := (-1)) hx hb hr (fun t ht hW => ⟨⟨(-1), (-1), rfl, rfl, fv 34, by rw [ht]; exact hP, va_K.moved hW.alike hK, hD⟩, hS.F ht⟩) hS.2.2 dX9_says_35
  obtain ⟨j_3, ej_4⟩ : ∃ j9 : Nat, j9 = rowI a2 a3 := ⟨_, rfl⟩
  rw [← ej_4] at hr_6 hj_7
  subst hr_6
  refine lv_istore (lv' := [(4, .int (nI j_3)), (0, .ref h0), (1, .int a1), (2, .int a2), (3, .int a3)]) hx hb dX9_says_6 hl (by decide) rfl (fun ls hl => ?_)
  refine lv_iload_n hx hb dX9_says_8 rfl (lv_at hl 2 rfl) ?_
  refine lv_if_lt (tgt := 34) hx hb dX9_says_9 (by decide) (fun c_13 => ?_) (fun c_13 => ?_)
  · refine lv_iconst (v := (-1)) hx hb dX9_says_34 (by decide) ?_
    have hP : va_P D vwCl (mw h0 ad cs iv (uF fv 34 (fv 34)) gv) s.heap := hP
    have hD : va_D A (mw h0 ad cs iv (uF fv 34 (fv 34)) gv) := hD
    exact W.iret (v := (-1)) hx hb hr (fun t ht hW => ⟨⟨(-1), (-1), rfl, rfl, fv 34, by rw [ht]; exact hP, va_K.moved hW.alike hK, hD⟩, hS.F ht⟩) hS.2.2 dX9_says_35
  refine lv_iload_n hx hb dX9_says_12 rfl (lv_at hl 2 rfl) ?_
  refine lv_aload_n hx hb dX9_says_13 rfl (lv_at hl 1 rfl) ?_
  refine va_get (D := D) (ci := 9) (v := .int (iv 14)) (C := RX9) (T := TX9) (N := 44) hx hb hts hin9 hown hK hP 0 rfl rfl 14 (by decide) (hts (.fieldLink RX9 53 "HoneyHouseModel" "rules" "I") (List.mem_of_getElem? (i := 1) rfl)) (fun _ h9 => h9) rfl dX9_says_14 ?_
  refine tp_i (y := nI n14) (h14) ?_
  refine lv_icmp_ge (tgt := 34) hx hb dX9_says_17 (by decide) (fun c_14 => ?_) (fun c_14 => ?_)
  · refine lv_iconst (v := (-1)) hx hb dX9_says_34 (by decide) ?_
    have hP : va_P D vwCl (mw h0 ad cs iv (uF fv 34 (fv 34)) gv) s.heap := hP
    have hD : va_D A (mw h0 ad cs iv (uF fv 34 (fv 34)) gv) := hD
    exact W.iret (v := (-1)) hx hb hr (fun t ht hW => ⟨⟨(-1), (-1), rfl, rfl, fv 34, by rw [ht]; exact hP, va_K.moved hW.alike hK, hD⟩, hS.F ht⟩) hS.2.2 dX9_says_35
  obtain ⟨j_15, hj_16, rfl⟩ := ls_nat c_13 c_14 (by omega)
  refine lv_iload hx hb dX9_says_20 (lv_at hl 0 rfl) ?_
  refine lv_if_lt (tgt := 34) hx hb dX9_says_22 (by decide) (fun c_17 => absurd c_17 (nI_pos (n := j_3) (by omega))) (fun c_17 => ?_)
  refine lv_aload_n hx hb dX9_says_25 rfl (lv_at hl 1 rfl) ?_
  refine lv_iload hx hb dX9_says_26 (lv_at hl 0 rfl) ?_
  refine vp_callSi (W.runV (As := [.int (nI j_3)]) (rest := []) ⟨hx, hb, hml, hown, hts⟩ (m_all l D h0 ad cs iv fv gv n3 j_3 h3 (by omega) (by omega)) (cwV 1 hts gX9_says_X9_all rfl rfl rfl (by decide +kernel) ⟨Nat.le_of_ble_eq_true rfl, Nat.le_of_ble_eq_true rfl⟩) ⟨fun a U g mk q => ⟨q.1, q.2.1, va_K.moved (u := U) (U := U.calling g mk a) (Vm.Alike.refl U.vm) q.2.2⟩, va_recv hK hP (ci := 9) (q0 := 0) rfl rfl, fun U hU hW => ⟨rfl, by rw [hU]; exact hP, va_K.moved hW.alike hK⟩⟩ rfl rfl hl.1 rfl (lv_room (Nat.le_of_ble_eq_true rfl)) dX9_says_28 ⟨Nat.le_of_ble_eq_true rfl, Nat.le_of_ble_eq_true rfl⟩) (fun r_18 k_19 => ?_)
  refine lv_if_ne (tgt := 36) hx hb dX9_says_31 (by decide) (fun c_20 => ?_) (fun c_20 => ?_)
  · refine lv_aload_n hx hb dX9_says_36 rfl (lv_at hl 1 rfl) ?_
    refine lv_iload_n hx hb dX9_says_37 rfl (lv_at hl 2 rfl) ?_
    refine lv_iload hx hb dX9_says_38 (lv_at hl 0 rfl) ?_
    have hFc := free_all hD hS hA
    refine va_calli (va_runV (As := [.int (nI j_15), .int (nI j_3)]) (rest := []) ⟨hx, hb, hml, hown, hts⟩ (m_works l D h0 ad cs iv fv gv n3 n14 j_15 j_3 s.heap.size h3 h14 (by omega) (by omega) (by omega) (by omega) hC) (cwV 2 hts gX9_says_X9_works rfl rfl rfl (by decide +kernel) ⟨Nat.le_of_ble_eq_true rfl, Nat.le_of_ble_eq_true rfl⟩) ⟨fun a U g mk q => by obtain ⟨q0, q1, qP, qK, qD⟩ := q; exact ⟨q0, q1, qP, va_K.moved (u := U) (U := U.calling g mk a) (Vm.Alike.refl U.vm) qK, qD⟩, va_recv hK hP (ci := 9) (q0 := 0) rfl rfl, fun U hU hW => ⟨rfl, by rw [hU], by rw [hU]; exact hP, va_K.moved hW.alike hK, hD.weaken (fun _ _ _ _ => trivial)⟩⟩ rfl rfl hl.1 rfl (lv_room (Nat.le_of_ble_eq_true rfl)) dX9_says_40 ⟨Nat.le_of_ble_eq_true rfl, Nat.le_of_ble_eq_true rfl⟩) hS (fun q _ h => hFc q h) hFc (fun r_21 u t H1 locs ht hvm w_22 hB hz1 hk1 hS => ?_)
    subst w_22
    obtain ⟨f34_23, hP1, hK1, hD1⟩ := hB
    rw [ht] at hP1
    have hK := va_K.moved hvm.symm hK1
    generalize H1 = H at hP1 hS ⊢
    have hP : va_P D vwCl (mw h0 ad cs iv (uF fv 34 f34_23) gv) H := hP1
    have hD : va_D A (mw h0 ad cs iv (uF fv 34 f34_23) gv) := hD1.weaken (fun _ _ _ h => hFc _ h)
    refine lv_istore (lv' := [(5, .int r_21), (4, .int (nI j_3)), (0, .ref h0), (1, .int (nI j_15)), (2, .int a2), (3, .int a3)]) hx hb dX9_says_43 hl (by decide) rfl (fun ls hl => ?_)
    refine lv_iload hx hb dX9_says_45 (lv_at hl 0 rfl) ?_
    refine lv_iconst (v := 2) hx hb dX9_says_47 (by decide) ?_
    refine lv_iand hx hb dX9_says_48 ?_
    refine lv_if_le (tgt := 56) hx hb dX9_says_49 (by decide) (fun c_24 => ?_) (fun c_24 => ?_)
    · refine lv_iload hx hb dX9_says_56 (lv_at hl 0 rfl) ?_
      have hP : va_P D vwCl (mw h0 ad cs iv (uF fv 34 f34_23) gv) H := hP
      have hD : va_D A (mw h0 ad cs iv (uF fv 34 f34_23) gv) := hD
      exact W.iret (v := r_21) hx hb hr (fun t ht hW => ⟨⟨r_21, r_21, rfl, rfl, f34_23, by rw [ht]; exact hP, va_K.moved hW.alike hK, hD⟩, hS.F ht⟩) hS.2.2 dX9_says_58
    refine lv_iconst (v := 2) hx hb dX9_says_52 (by decide) ?_
    refine lv_goto (tgt := 58) hx hb dX9_says_53 (by decide) ?_
    have hP : va_P D vwCl (mw h0 ad cs iv (uF fv 34 f34_23) gv) H := hP
    have hD : va_D A (mw h0 ad cs iv (uF fv 34 f34_23) gv) := hD
    exact W.iret (v := 2) hx hb hr (fun t ht hW => ⟨⟨2, 2, rfl, rfl, f34_23, by rw [ht]; exact hP, va_K.moved hW.alike hK, hD⟩, hS.F ht⟩) hS.2.2 dX9_says_58
  refine lv_iconst (v := (-1)) hx hb dX9_says_34 (by decide) ?_
  have hP : va_P D vwCl (mw h0 ad cs iv (uF fv 34 (fv 34)) gv) s.heap := hP
  have hD : va_D A (mw h0 ad cs iv (uF fv 34 (fv 34)) gv) := hD
  exact W.iret (v := (-1)) hx hb hr (fun t ht hW => ⟨⟨(-1), (-1), rfl, rfl, fv 34, by rw [ht]; exact hP, va_K.moved hW.alike hK, hD⟩, hS.F ht⟩) hS.2.2 dX9_says_35
set_option maxHeartbeats 4000000 in
set_option maxRecDepth 100000 in
theorem m_name_ (l : Launch) (D : va_G) (h0 : Nat) (ad : Nat → Nat) (cs : Nat → ClassId) (iv : Nat → Int32) (fv : Nat → Nat → Int32) (gv : Nat → Int64) (n3 n13 n14 : Nat) (a1 a2 a3 : Int32) (sz : Nat) (h3 : iv 3 = nI n3) (h13 : iv 13 = nI n13) (h14 : iv 14 = nI n14) (b3 : n3 ≤ 40) (b13 : n13 ≤ 60) (b14 : n14 ≤ 16) (hN : ∀ i : Nat, i < n14 → ∃ k : Nat, k ≤ 12 ∧ fv 16 i = nI k) (hC : ∀ i : Nat, i < n14 → ∃ k n : Nat, k ≤ 200 ∧ fv 20 i = nI k ∧ wfs (fv 19) (200 * i) k n) : Met l yX9_name_ wsX9_name_ ({ frames := 3, cells := 0, slots := 0, locals := 80 }) (va_Pc [.ref h0, .int a1, .int a2, .int a3] (fun U => U.heap.size = sz ∧ va_P D vwCl (mw h0 ad cs iv fv gv) U.heap ∧ va_K D vwCl (mT cs) U ∧ va_D (fun _ => True) (mw h0 ad cs iv fv gv))) (va_Qi (fun (r u : Int32) => r = u) (fun (r : Int32) (t : State) => ∃ (f34 : Nat → Int32), va_P D vwCl (mw h0 ad cs iv (uF fv 34 f34) gv) t.heap ∧ va_K D vwCl (mT cs) t ∧ va_D (va_A (mw h0 ad cs iv fv gv) sz) (mw h0 ad cs iv (uF fv 34 f34) gv)) (va_A (mw h0 ad cs iv fv gv) sz)) 0 0 (va_A (mw h0 ad cs iv fv gv) sz) := by
  refine Met.ofW (cc := cX9_name_) (maxL := 6) (ret := (some .int)) (by decide) rfl ?_
  intro p e s m args below meth c s₁ B hml hv
  obtain ⟨rfl, hsz, hP, hK, hD0⟩ := hv
  have hx := B.exec
  have hb := B.bytes
  have hr := B.returns
  have hts := atoms_spec (ws := wsX9_name_) B.pre
  have hown : s.vm.findClass RX9 = some m.cls := findClass_of_methodNamed B.named
  have hlocks := B.notSynchronized
  subst hsz
  have hD := hD0.self (sz := s.heap.size)
  generalize hAe : va_A (mw h0 ad cs iv fv gv) s.heap.size = A at hD ⊢
  have hA : ∀ q : Nat, s.heap.size ≤ q → A q := fun q h => by rw [← hAe]; exact Or.inr h
  have hS : va_S A s.heap s.heap [] := va_S.rf
  have hin9 : ∀ w ∈ u_ws RX9 TX9 44, w ∈ wsX9_name_ := (fun _ h9 => List.mem_cons_of_mem _ ((List.mem_append_right _ h9)))
  have hl := lv_entry ([.ref h0, .int a1, .int a2, .int a3]) (n := 6) (Nat.le_of_ble_eq_true rfl)
  rw [lg_entry_eq]
  generalize (lg_sl ([.ref h0, .int a1, .int a2, .int a3]) ++ List.replicate (6 - (lg_sl ([.ref h0, .int a1, .int a2, .int a3])).length) Slot.unset).toArray = ls at hl ⊢
  have hl : lv_has ls 6 [(0, .ref h0), (1, .int a1), (2, .int a2), (3, .int a3)] := hl
  refine lv_aload_n hx hb dX9_name__0 rfl (lv_at hl 0 rfl) ?_
  refine lv_iload_n hx hb dX9_name__1 rfl (lv_at hl 1 rfl) ?_
  refine lv_iload_n hx hb dX9_name__2 rfl (lv_at hl 2 rfl) ?_
  refine vp_callSi (W.runV (As := [.int a1, .int a2]) (rest := []) ⟨hx, hb, hml, hown, hts⟩ (m_row l D h0 ad cs iv fv gv n13 a1 a2 h13 (by omega)) (cwV 2 hts gX9_name__X9_row rfl rfl rfl (by decide +kernel) ⟨Nat.le_of_ble_eq_true rfl, Nat.le_of_ble_eq_true rfl⟩) ⟨fun a U g mk q => ⟨q.1, q.2.1, va_K.moved (u := U) (U := U.calling g mk a) (Vm.Alike.refl U.vm) q.2.2⟩, va_recv hK hP (ci := 9) (q0 := 0) rfl rfl, fun U hU hW => ⟨rfl, by rw [hU]; exact hP, va_K.moved hW.alike hK⟩⟩ rfl rfl hl.1 rfl (lv_room (Nat.le_of_ble_eq_true rfl)) dX9_name__3 ⟨Nat.le_of_ble_eq_true rfl, Nat.le_of_ble_eq_true rfl⟩) (fun r_1 k_2 => ?_)
  rcases k_2 with ⟨rN_5, rfl⟩ | ⟨rN_5, hr_6, hj_7⟩
  · refine lv_istore (lv' := [(4, .int (-1)), (0, .ref h0), (1, .int a1), (2, .int a2), (3, .int a3)]) hx hb dX9_name__6 hl (by decide) rfl (fun ls hl => ?_)
    refine lv_iload hx hb dX9_name__8 (lv_at hl 0 rfl) ?_
    refine lv_if_lt (tgt := 22) hx hb dX9_name__10 (by decide) (fun c_8 => ?_) (fun c_8 => absurd (by decide) c_8)
    refine lv_iconst (v := (-1)) hx hb dX9_name__22 (by decide) ?_
    have hP : va_P D vwCl (mw h0 ad cs iv (uF fv 34 (fv 34)) gv) s.heap := hP
    have hD : va_D A (mw h0 ad cs iv (uF fv 34 (fv 34)) gv) := hD
    exact W.iret (v := (-1)) hx hb hr (fun t ht hW => ⟨⟨(-1), (-1), rfl, rfl, fv 34, by rw [ht]; exact hP, va_K.moved hW.alike hK, hD⟩, hS.F ht⟩) hS.2.2 dX9_name__23
  obtain ⟨j_3, ej_4⟩ : ∃ j9 : Nat, j9 = rowI a1 a2 := ⟨_, rfl⟩
  rw [← ej_4] at hr_6 hj_7
  subst hr_6
  refine lv_istore (lv' := [(4, .int (nI j_3)), (0, .ref h0), (1, .int a1), (2, .int a2), (3, .int a3)]) hx hb dX9_name__6 hl (by decide) rfl (fun ls hl => ?_)
  refine lv_iload hx hb dX9_name__8 (lv_at hl 0 rfl) ?_
  refine lv_if_lt (tgt := 22) hx hb dX9_name__10 (by decide) (fun c_9 => absurd c_9 (nI_pos (n := j_3) (by omega))) (fun c_9 => ?_)
  refine lv_aload_n hx hb dX9_name__13 rfl (lv_at hl 1 rfl) ?_
  refine lv_iload hx hb dX9_name__14 (lv_at hl 0 rfl) ?_
  refine vp_callSi (W.runV (As := [.int (nI j_3)]) (rest := []) ⟨hx, hb, hml, hown, hts⟩ (m_all l D h0 ad cs iv fv gv n3 j_3 h3 (by omega) (by omega)) (cwV 1 hts gX9_name__X9_all rfl rfl rfl (by decide +kernel) ⟨Nat.le_of_ble_eq_true rfl, Nat.le_of_ble_eq_true rfl⟩) ⟨fun a U g mk q => ⟨q.1, q.2.1, va_K.moved (u := U) (U := U.calling g mk a) (Vm.Alike.refl U.vm) q.2.2⟩, va_recv hK hP (ci := 9) (q0 := 0) rfl rfl, fun U hU hW => ⟨rfl, by rw [hU]; exact hP, va_K.moved hW.alike hK⟩⟩ rfl rfl hl.1 rfl (lv_room (Nat.le_of_ble_eq_true rfl)) dX9_name__16 ⟨Nat.le_of_ble_eq_true rfl, Nat.le_of_ble_eq_true rfl⟩) (fun r_10 k_11 => ?_)
  refine lv_if_ne (tgt := 24) hx hb dX9_name__19 (by decide) (fun c_12 => ?_) (fun c_12 => ?_)
  · refine lv_iconst (v := 0) hx hb dX9_name__24 (by decide) ?_
    refine lv_istore (lv' := [(5, .int 0), (4, .int (nI j_3)), (0, .ref h0), (1, .int a1), (2, .int a2), (3, .int a3)]) hx hb dX9_name__25 hl (by decide) rfl (fun ls hl => ?_)
    refine lp_V (nL := 6) (σ := Nat × (Nat → Int32)) (lv := fun x9 => [(5, .int (nI x9.1)), (4, .int (nI j_3)), (3, .int a3), (0, .ref h0)]) (μ := fun x9 => n14 - x9.1) (J := fun x9 ws9 => ws9 = (mw h0 ad cs iv (uF fv 34 x9.2) gv) ∧ (x9.1 ≤ n14)) (fun x9 ws9 H locs ls hj hP hD hS hl ih_13 => ?_) (0, fv 34) (mw h0 ad cs iv fv gv) _ _ ls ⟨rfl, (show 0 ≤ n14 from by omega)⟩ hP hD hS (lv_sub hl [0, 1, 5, 2] rfl)
    obtain ⟨i_14, g34_15⟩ := x9
    replace hj : ws9 = (mw h0 ad cs iv (uF fv 34 g34_15) gv) ∧ (i_14 ≤ n14) := hj
    obtain ⟨rfl, hi_16⟩ := hj
    have hl : lv_has ls 6 [(5, .int (nI i_14)), (4, .int (nI j_3)), (3, .int a3), (0, .ref h0)] := hl
    refine lv_iload hx hb dX9_name__27 (lv_at hl 0 rfl) ?_
    refine lv_aload_n hx hb dX9_name__29 rfl (lv_at hl 3 rfl) ?_
    refine va_get (D := D) (ci := 9) (v := .int (iv 14)) (C := RX9) (T := TX9) (N := 44) hx hb hts hin9 hown hK hP 0 rfl rfl 14 (by decide) (hts (.fieldLink RX9 53 "HoneyHouseModel" "rules" "I") (List.mem_of_getElem? (i := 1) rfl)) (fun _ h9 => h9) rfl dX9_name__30 ?_
    refine tp_i (y := nI n14) (h14) ?_
    refine lv_icmp_ge (tgt := 68) hx hb dX9_name__33 (by decide) (fun c_17 => ?_) (fun c_17 => ?_)
    · have d_18 := n_le (a := n14) (b := i_14) (by omega) (by omega) c_17
      refine lv_iconst (v := (-1)) hx hb dX9_name__68 (by decide) ?_
      have hP : va_P D vwCl (mw h0 ad cs iv (uF fv 34 g34_15) gv) H := hP
      have hD : va_D A (mw h0 ad cs iv (uF fv 34 g34_15) gv) := hD
      exact W.iret (v := (-1)) hx hb hr (fun t ht hW => ⟨⟨(-1), (-1), rfl, rfl, g34_15, by rw [ht]; exact hP, va_K.moved hW.alike hK, hD⟩, hS.F ht⟩) hS.2.2 dX9_name__69
    have d_19 := n_nle (a := n14) (b := i_14) (by omega) (by omega) c_17
    refine lv_aload_n hx hb dX9_name__36 rfl (lv_at hl 3 rfl) ?_
    refine lv_iload hx hb dX9_name__37 (lv_at hl 0 rfl) ?_
    refine lv_iload_n hx hb dX9_name__39 rfl (lv_at hl 2 rfl) ?_
    refine vp_callSi (W.runV (As := [.int (nI i_14), .int a3]) (rest := []) ⟨hx, hb, hml, hown, hts⟩ (m_isInForce l D h0 ad cs iv (uF fv 34 g34_15) gv n14 i_14 a3 h14 (by omega) (by omega) hN) (cwV 2 hts gX9_name__X9_isInForce rfl rfl rfl (by decide +kernel) ⟨Nat.le_of_ble_eq_true rfl, Nat.le_of_ble_eq_true rfl⟩) ⟨fun a U g mk q => ⟨q.1, q.2.1, va_K.moved (u := U) (U := U.calling g mk a) (Vm.Alike.refl U.vm) q.2.2⟩, va_recv hK hP (ci := 9) (q0 := 0) rfl rfl, fun U hU hW => ⟨rfl, by rw [hU]; exact hP, va_K.moved hW.alike hK⟩⟩ rfl rfl hl.1 rfl (lv_room (Nat.le_of_ble_eq_true rfl)) dX9_name__40 ⟨Nat.le_of_ble_eq_true rfl, Nat.le_of_ble_eq_true rfl⟩) (fun r_20 k_21 => ?_)
    refine lv_if_eq (tgt := 62) hx hb dX9_name__43 (by decide) (fun c_22 => ?_) (fun c_22 => ?_)
    · refine lv_iinc (v := nI (i_14 + 1)) (lv' := [(5, .int (nI (i_14 + 1))), (4, .int (nI j_3)), (3, .int a3), (0, .ref h0)]) hx hb dX9_name__62 hl (k := 0) rfl (nI_add i_14 1) (by decide) rfl (fun ls hl => ?_)
      refine lv_goto (tgt := 27) hx hb dX9_name__65 (by decide) ?_
      exact ih_13 (i_14 + 1, g34_15) (mw h0 ad cs iv (uF fv 34 g34_15) gv) _ _ ls (by show n14 - (i_14 + 1) < n14 - i_14; omega) ⟨rfl, (show (i_14 + 1) ≤ n14 from by omega)⟩ hP hD hS (lv_sub hl [0, 1, 2, 3] rfl)
    refine lv_aload_n hx hb dX9_name__46 rfl (lv_at hl 3 rfl) ?_
    refine lv_iload hx hb dX9_name__47 (lv_at hl 0 rfl) ?_
    refine lv_iload hx hb dX9_name__49 (lv_at hl 1 rfl) ?_
    have hFc := free_all hD hS hA
    refine va_calli (va_runV (As := [.int (nI i_14), .int (nI j_3)]) (rest := []) ⟨hx, hb, hml, hown, hts⟩ (m_works l D h0 ad cs iv (uF fv 34 g34_15) gv n3 n14 i_14 j_3 H.size h3 h14 (by omega) (by omega) (by omega) (by omega) hC) (cwV 2 hts gX9_name__X9_works rfl rfl rfl (by decide +kernel) ⟨Nat.le_of_ble_eq_true rfl, Nat.le_of_ble_eq_true rfl⟩) ⟨fun a U g mk q => by obtain ⟨q0, q1, qP, qK, qD⟩ := q; exact ⟨q0, q1, qP, va_K.moved (u := U) (U := U.calling g mk a) (Vm.Alike.refl U.vm) qK, qD⟩, va_recv hK hP (ci := 9) (q0 := 0) rfl rfl, fun U hU hW => ⟨rfl, by rw [hU], by rw [hU]; exact hP, va_K.moved hW.alike hK, hD.weaken (fun _ _ _ _ => trivial)⟩⟩ rfl rfl hl.1 rfl (lv_room (Nat.le_of_ble_eq_true rfl)) dX9_name__51 ⟨Nat.le_of_ble_eq_true rfl, Nat.le_of_ble_eq_true rfl⟩) hS (fun q _ h => hFc q h) hFc (fun r_23 u t H1 locs ht hvm w_24 hB hz1 hk1 hS => ?_)
    subst w_24
    obtain ⟨f34_25, hP1, hK1, hD1⟩ := hB
    rw [ht] at hP1
    have hK := va_K.moved hvm.symm hK1
    generalize H1 = H at hP1 hS ⊢
    have hP : va_P D vwCl (mw h0 ad cs iv (uF fv 34 f34_25) gv) H := hP1
    have hD : va_D A (mw h0 ad cs iv (uF fv 34 f34_25) gv) := hD1.weaken (fun _ _ _ h => hFc _ h)
    refine lv_iconst (v := 2) hx hb dX9_name__54 (by decide) ?_
    refine lv_iand hx hb dX9_name__55 ?_
    refine lv_if_le (tgt := 62) hx hb dX9_name__56 (by decide) (fun c_26 => ?_) (fun c_26 => ?_)
    · refine lv_iinc (v := nI (i_14 + 1)) (lv' := [(5, .int (nI (i_14 + 1))), (4, .int (nI j_3)), (3, .int a3), (0, .ref h0)]) hx hb dX9_name__62 hl (k := 0) rfl (nI_add i_14 1) (by decide) rfl (fun ls hl => ?_)
      refine lv_goto (tgt := 27) hx hb dX9_name__65 (by decide) ?_
      exact ih_13 (i_14 + 1, f34_25) (mw h0 ad cs iv (uF fv 34 f34_25) gv) _ _ ls (by show n14 - (i_14 + 1) < n14 - i_14; omega) ⟨rfl, (show (i_14 + 1) ≤ n14 from by omega)⟩ hP hD hS (lv_sub hl [0, 1, 2, 3] rfl)
    refine lv_iload hx hb dX9_name__59 (lv_at hl 0 rfl) ?_
    have hP : va_P D vwCl (mw h0 ad cs iv (uF fv 34 f34_25) gv) H := hP
    have hD : va_D A (mw h0 ad cs iv (uF fv 34 f34_25) gv) := hD
    exact W.iret (v := nI i_14) hx hb hr (fun t ht hW => ⟨⟨nI i_14, nI i_14, rfl, rfl, f34_25, by rw [ht]; exact hP, va_K.moved hW.alike hK, hD⟩, hS.F ht⟩) hS.2.2 dX9_name__61
  refine lv_iconst (v := (-1)) hx hb dX9_name__22 (by decide) ?_
  have hP : va_P D vwCl (mw h0 ad cs iv (uF fv 34 (fv 34)) gv) s.heap := hP
  have hD : va_D A (mw h0 ad cs iv (uF fv 34 (fv 34)) gv) := hD
  exact W.iret (v := (-1)) hx hb hr (fun t ht hW => ⟨⟨(-1), (-1), rfl, rfl, fv 34, by rw [ht]; exact hP, va_K.moved hW.alike hK, hD⟩, hS.F ht⟩) hS.2.2 dX9_name__23
theorem row_s {f : Nat → Int32} {b i j : Nat} {x : Int32} (h : ∀ j : Nat, j < i → f (b + j) = x) (hj : j < i + 1) : upd f (b + i) x (b + j) = x := by
  rcases Nat.decEq j i with q | q
  · rw [upd_n (by omega)]; exact h j (by omega)
  · rw [q, upd_s]
theorem row_c {f g : Nat → Int32} {b i j : Nat} (h : ∀ j : Nat, j < i → f (b + j) = g j) (hj : j < i + 1) : upd f (b + i) (g i) (b + j) = g j := by
  rcases Nat.decEq j i with q | q
  · rw [upd_n (by omega)]; exact h j (by omega)
  · rw [q, upd_s]
set_option maxHeartbeats 4000000 in
set_option maxRecDepth 100000 in
theorem m_lot (l : Launch) (D : va_G) (h0 : Nat) (ad : Nat → Nat) (cs : Nat → ClassId) (iv : Nat → Int32) (fv : Nat → Nat → Int32) (gv : Nat → Int64) (n3 : Nat) (a1 a2 a3 a4 a5 : Int32) (sz : Nat) (h3 : iv 3 = nI n3) (b3 : n3 ≤ 40) : Met l yX9_lot wsX9_lot ({ frames := 1, cells := 0, slots := 0, locals := 23 }) (va_Pc [.ref h0, .int a1, .int a2, .int a3, .int a4, .int a5] (fun U => U.heap.size = sz ∧ va_P D vwCl (mw h0 ad cs iv fv gv) U.heap ∧ va_K D vwCl (mT cs) U ∧ va_D (fun _ => True) (mw h0 ad cs iv fv gv))) (va_Qi (fun (r u : Int32) => r = u) (fun (r : Int32) (t : State) => ∃ (k3 : Nat) (f4 : Nat → Int32) (f5 : Nat → Int32) (f6 : Nat → Int32) (f7 : Nat → Int32), (k3 ≤ 40) ∧ (k3 = if (a1 < 0 ∨ 9 < a1) ∨ (a2 < 1 ∨ 200000 < a2) ∨ (a3 < 100 ∨ 300 < a3) ∨ (a4 < 0 ∨ 140 < a4) ∨ (a5 < 0 ∨ 3 < a5) ∨ n3 = 40 then n3 else n3 + 1) ∧ (r = if (a1 < 0 ∨ 9 < a1) ∨ (a2 < 1 ∨ 200000 < a2) ∨ (a3 < 100 ∨ 300 < a3) ∨ (a4 < 0 ∨ 140 < a4) ∨ (a5 < 0 ∨ 3 < a5) ∨ n3 = 40 then (-1) else nI n3) ∧ ((((a1 < 0 ∨ 9 < a1) ∨ (a2 < 1 ∨ 200000 < a2) ∨ (a3 < 100 ∨ 300 < a3) ∨ (a4 < 0 ∨ 140 < a4) ∨ (a5 < 0 ∨ 3 < a5) ∨ n3 = 40) ∧ f4 = fv 4 ∧ f5 = fv 5 ∧ f6 = fv 6 ∧ f7 = fv 7) ∨ (¬ ((a1 < 0 ∨ 9 < a1) ∨ (a2 < 1 ∨ 200000 < a2) ∨ (a3 < 100 ∨ 300 < a3) ∨ (a4 < 0 ∨ 140 < a4) ∨ (a5 < 0 ∨ 3 < a5) ∨ n3 = 40) ∧ lotR fv (uF (uF (uF (uF fv 4 f4) 5 f5) 6 f6) 7 f7) n3 a1 a2 a3 a4 a5)) ∧ va_P D vwCl (mw h0 ad cs (upd iv 3 (nI k3)) (uF (uF (uF (uF fv 4 f4) 5 f5) 6 f6) 7 f7) gv) t.heap ∧ va_K D vwCl (mT cs) t ∧ va_D (va_A (mw h0 ad cs iv fv gv) sz) (mw h0 ad cs (upd iv 3 (nI k3)) (uF (uF (uF (uF fv 4 f4) 5 f5) 6 f6) 7 f7) gv)) (va_A (mw h0 ad cs iv fv gv) sz)) 0 0 (va_A (mw h0 ad cs iv fv gv) sz) := by
  refine Met.ofW (cc := cX9_lot) (maxL := 8) (ret := (some .int)) (by decide) rfl ?_
  intro p e s m args below meth c s₁ B hml hv
  obtain ⟨rfl, hsz, hP, hK, hD0⟩ := hv
  have hx := B.exec
  have hb := B.bytes
  have hr := B.returns
  have hts := atoms_spec (ws := wsX9_lot) B.pre
  have hown : s.vm.findClass RX9 = some m.cls := findClass_of_methodNamed B.named
  have hlocks := B.notSynchronized
  subst hsz
  have hD := hD0.self (sz := s.heap.size)
  generalize hAe : va_A (mw h0 ad cs iv fv gv) s.heap.size = A at hD ⊢
  have hA : ∀ q : Nat, s.heap.size ≤ q → A q := fun q h => by rw [← hAe]; exact Or.inr h
  have hS : va_S A s.heap s.heap [] := va_S.rf
  have hin9 : ∀ w ∈ u_ws RX9 TX9 44, w ∈ wsX9_lot := (fun _ h9 => List.mem_cons_of_mem _ ((List.mem_append_right _ h9)))
  have hl := lv_entry ([.ref h0, .int a1, .int a2, .int a3, .int a4, .int a5]) (n := 8) (Nat.le_of_ble_eq_true rfl)
  rw [lg_entry_eq]
  generalize (lg_sl ([.ref h0, .int a1, .int a2, .int a3, .int a4, .int a5]) ++ List.replicate (8 - (lg_sl ([.ref h0, .int a1, .int a2, .int a3, .int a4, .int a5])).length) Slot.unset).toArray = ls at hl ⊢
  have hl : lv_has ls 8 [(0, .ref h0), (1, .int a1), (2, .int a2), (3, .int a3), (4, .int a4), (5, .int a5)] := hl
  refine lv_iload_n hx hb dX9_lot_0 rfl (lv_at hl 1 rfl) ?_
  refine lv_iconst (v := 0) hx hb dX9_lot_1 (by decide) ?_
  refine lv_bipush (v := 9) hx hb dX9_lot_2 (by decide) ?_
  refine vp_callSi (W.runS (As := [.int a1, .int 0, .int 9]) (rest := []) ⟨hx, hb, hml, hown, hts⟩ (s_X9_is l a1 0 9) (va_cwS 3 hts gX9_lot_X9_is rfl rfl rfl (by decide +kernel) ⟨Nat.le_of_ble_eq_true rfl, Nat.le_of_ble_eq_true rfl⟩) ⟨fun a U g mk q => q, fun U hU hW => ⟨rfl, trivial⟩⟩ rfl rfl hl.1 rfl (lv_room (Nat.le_of_ble_eq_true rfl)) dX9_lot_4 ⟨Nat.le_of_ble_eq_true rfl, Nat.le_of_ble_eq_true rfl⟩) (fun r_1 k_2 => ?_)
  rcases k_2 with ⟨rfl, o_3⟩ | ⟨rfl, a_4, b_5⟩
  · refine lv_if_eq (tgt := 63) hx hb dX9_lot_7 (by decide) (fun c_6 => ?_) (fun c_6 => absurd (by decide) c_6)
    refine lv_iconst (v := (-1)) hx hb dX9_lot_63 (by decide) ?_
    have hP : va_P D vwCl (mw h0 ad cs (upd iv 3 (iv 3)) (uF (uF (uF (uF fv 4 (fv 4)) 5 (fv 5)) 6 (fv 6)) 7 (fv 7)) gv) s.heap := hP
    have hD : va_D A (mw h0 ad cs (upd iv 3 (iv 3)) (uF (uF (uF (uF fv 4 (fv 4)) 5 (fv 5)) 6 (fv 6)) 7 (fv 7)) gv) := hD
    have hP := hP
    rw [h3] at hP hD
    exact W.iret (v := (-1)) hx hb hr (fun t ht hW => ⟨⟨(-1), (-1), rfl, rfl, n3, fv 4, fv 5, fv 6, fv 7, by omega, ((if_pos (Or.inl o_3)).symm), ((if_pos (Or.inl o_3)).symm), Or.inl ⟨Or.inl o_3, rfl, rfl, rfl, rfl⟩, by rw [ht]; exact hP, va_K.moved hW.alike hK, hD⟩, hS.F ht⟩) hS.2.2 dX9_lot_64
  obtain ⟨j_7, hj_8, hj_9, rfl⟩ := is_nat (a := 0) (b := 9) a_4 b_5 (by omega)
  refine lv_if_eq (tgt := 63) hx hb dX9_lot_7 (by decide) (fun c_10 => absurd c_10 (by decide)) (fun c_10 => ?_)
  refine lv_iload_n hx hb dX9_lot_10 rfl (lv_at hl 2 rfl) ?_
  refine lv_iconst (v := 1) hx hb dX9_lot_11 (by decide) ?_
  refine lv_ldc hx hb hown (hts (.constant RX9 155 (200000)) (List.mem_of_getElem? (i := 1) rfl)) dX9_lot_12 ?_
  refine vp_callSi (W.runS (As := [.int a2, .int 1, .int 200000]) (rest := []) ⟨hx, hb, hml, hown, hts⟩ (s_X9_is l a2 1 200000) (va_cwS 3 hts gX9_lot_X9_is rfl rfl rfl (by decide +kernel) ⟨Nat.le_of_ble_eq_true rfl, Nat.le_of_ble_eq_true rfl⟩) ⟨fun a U g mk q => q, fun U hU hW => ⟨rfl, trivial⟩⟩ rfl rfl hl.1 rfl (lv_room (Nat.le_of_ble_eq_true rfl)) dX9_lot_14 ⟨Nat.le_of_ble_eq_true rfl, Nat.le_of_ble_eq_true rfl⟩) (fun r_11 k_12 => ?_)
  rcases k_12 with ⟨rfl, o_13⟩ | ⟨rfl, a_14, b_15⟩
  · refine lv_if_eq (tgt := 63) hx hb dX9_lot_17 (by decide) (fun c_16 => ?_) (fun c_16 => absurd (by decide) c_16)
    refine lv_iconst (v := (-1)) hx hb dX9_lot_63 (by decide) ?_
    have hP : va_P D vwCl (mw h0 ad cs (upd iv 3 (iv 3)) (uF (uF (uF (uF fv 4 (fv 4)) 5 (fv 5)) 6 (fv 6)) 7 (fv 7)) gv) s.heap := hP
    have hD : va_D A (mw h0 ad cs (upd iv 3 (iv 3)) (uF (uF (uF (uF fv 4 (fv 4)) 5 (fv 5)) 6 (fv 6)) 7 (fv 7)) gv) := hD
    have hP := hP
    rw [h3] at hP hD
    exact W.iret (v := (-1)) hx hb hr (fun t ht hW => ⟨⟨(-1), (-1), rfl, rfl, n3, fv 4, fv 5, fv 6, fv 7, by omega, ((if_pos (Or.inr (Or.inl o_13))).symm), ((if_pos (Or.inr (Or.inl o_13))).symm), Or.inl ⟨Or.inr (Or.inl o_13), rfl, rfl, rfl, rfl⟩, by rw [ht]; exact hP, va_K.moved hW.alike hK, hD⟩, hS.F ht⟩) hS.2.2 dX9_lot_64
  obtain ⟨j_17, hj_18, hj_19, rfl⟩ := is_nat (a := 1) (b := 200000) a_14 b_15 (by omega)
  refine lv_if_eq (tgt := 63) hx hb dX9_lot_17 (by decide) (fun c_20 => absurd c_20 (by decide)) (fun c_20 => ?_)
  refine lv_iload_n hx hb dX9_lot_20 rfl (lv_at hl 3 rfl) ?_
  refine lv_bipush (v := 100) hx hb dX9_lot_21 (by decide) ?_
  refine lv_sipush (v := 300) hx hb dX9_lot_23 (by decide) ?_
  refine vp_callSi (W.runS (As := [.int a3, .int 100, .int 300]) (rest := []) ⟨hx, hb, hml, hown, hts⟩ (s_X9_is l a3 100 300) (va_cwS 3 hts gX9_lot_X9_is rfl rfl rfl (by decide +kernel) ⟨Nat.le_of_ble_eq_true rfl, Nat.le_of_ble_eq_true rfl⟩) ⟨fun a U g mk q => q, fun U hU hW => ⟨rfl, trivial⟩⟩ rfl rfl hl.1 rfl (lv_room (Nat.le_of_ble_eq_true rfl)) dX9_lot_26 ⟨Nat.le_of_ble_eq_true rfl, Nat.le_of_ble_eq_true rfl⟩) (fun r_21 k_22 => ?_)
  rcases k_22 with ⟨rfl, o_23⟩ | ⟨rfl, a_24, b_25⟩
  · refine lv_if_eq (tgt := 63) hx hb dX9_lot_29 (by decide) (fun c_26 => ?_) (fun c_26 => absurd (by decide) c_26)
    refine lv_iconst (v := (-1)) hx hb dX9_lot_63 (by decide) ?_
    have hP : va_P D vwCl (mw h0 ad cs (upd iv 3 (iv 3)) (uF (uF (uF (uF fv 4 (fv 4)) 5 (fv 5)) 6 (fv 6)) 7 (fv 7)) gv) s.heap := hP
    have hD : va_D A (mw h0 ad cs (upd iv 3 (iv 3)) (uF (uF (uF (uF fv 4 (fv 4)) 5 (fv 5)) 6 (fv 6)) 7 (fv 7)) gv) := hD
    have hP := hP
    rw [h3] at hP hD
    exact W.iret (v := (-1)) hx hb hr (fun t ht hW => ⟨⟨(-1), (-1), rfl, rfl, n3, fv 4, fv 5, fv 6, fv 7, by omega, ((if_pos (Or.inr (Or.inr (Or.inl o_23)))).symm), ((if_pos (Or.inr (Or.inr (Or.inl o_23)))).symm), Or.inl ⟨Or.inr (Or.inr (Or.inl o_23)), rfl, rfl, rfl, rfl⟩, by rw [ht]; exact hP, va_K.moved hW.alike hK, hD⟩, hS.F ht⟩) hS.2.2 dX9_lot_64
  obtain ⟨j_27, hj_28, hj_29, rfl⟩ := is_nat (a := 100) (b := 300) a_24 b_25 (by omega)
  refine lv_if_eq (tgt := 63) hx hb dX9_lot_29 (by decide) (fun c_30 => absurd c_30 (by decide)) (fun c_30 => ?_)
  refine lv_iload hx hb dX9_lot_32 (lv_at hl 4 rfl) ?_
  refine lv_iconst (v := 0) hx hb dX9_lot_34 (by decide) ?_
  refine lv_sipush (v := 140) hx hb dX9_lot_35 (by decide) ?_
  refine vp_callSi (W.runS (As := [.int a4, .int 0, .int 140]) (rest := []) ⟨hx, hb, hml, hown, hts⟩ (s_X9_is l a4 0 140) (va_cwS 3 hts gX9_lot_X9_is rfl rfl rfl (by decide +kernel) ⟨Nat.le_of_ble_eq_true rfl, Nat.le_of_ble_eq_true rfl⟩) ⟨fun a U g mk q => q, fun U hU hW => ⟨rfl, trivial⟩⟩ rfl rfl hl.1 rfl (lv_room (Nat.le_of_ble_eq_true rfl)) dX9_lot_38 ⟨Nat.le_of_ble_eq_true rfl, Nat.le_of_ble_eq_true rfl⟩) (fun r_31 k_32 => ?_)
  rcases k_32 with ⟨rfl, o_33⟩ | ⟨rfl, a_34, b_35⟩
  · refine lv_if_eq (tgt := 63) hx hb dX9_lot_41 (by decide) (fun c_36 => ?_) (fun c_36 => absurd (by decide) c_36)
    refine lv_iconst (v := (-1)) hx hb dX9_lot_63 (by decide) ?_
    have hP : va_P D vwCl (mw h0 ad cs (upd iv 3 (iv 3)) (uF (uF (uF (uF fv 4 (fv 4)) 5 (fv 5)) 6 (fv 6)) 7 (fv 7)) gv) s.heap := hP
    have hD : va_D A (mw h0 ad cs (upd iv 3 (iv 3)) (uF (uF (uF (uF fv 4 (fv 4)) 5 (fv 5)) 6 (fv 6)) 7 (fv 7)) gv) := hD
    have hP := hP
    rw [h3] at hP hD
    exact W.iret (v := (-1)) hx hb hr (fun t ht hW => ⟨⟨(-1), (-1), rfl, rfl, n3, fv 4, fv 5, fv 6, fv 7, by omega, ((if_pos (Or.inr (Or.inr (Or.inr (Or.inl o_33))))).symm), ((if_pos (Or.inr (Or.inr (Or.inr (Or.inl o_33))))).symm), Or.inl ⟨Or.inr (Or.inr (Or.inr (Or.inl o_33))), rfl, rfl, rfl, rfl⟩, by rw [ht]; exact hP, va_K.moved hW.alike hK, hD⟩, hS.F ht⟩) hS.2.2 dX9_lot_64
  obtain ⟨j_37, hj_38, hj_39, rfl⟩ := is_nat (a := 0) (b := 140) a_34 b_35 (by omega)
  refine lv_if_eq (tgt := 63) hx hb dX9_lot_41 (by decide) (fun c_40 => absurd c_40 (by decide)) (fun c_40 => ?_)
  refine lv_iload hx hb dX9_lot_44 (lv_at hl 5 rfl) ?_
  refine lv_iconst (v := 0) hx hb dX9_lot_46 (by decide) ?_
  refine lv_iconst (v := 3) hx hb dX9_lot_47 (by decide) ?_
  refine vp_callSi (W.runS (As := [.int a5, .int 0, .int 3]) (rest := []) ⟨hx, hb, hml, hown, hts⟩ (s_X9_is l a5 0 3) (va_cwS 3 hts gX9_lot_X9_is rfl rfl rfl (by decide +kernel) ⟨Nat.le_of_ble_eq_true rfl, Nat.le_of_ble_eq_true rfl⟩) ⟨fun a U g mk q => q, fun U hU hW => ⟨rfl, trivial⟩⟩ rfl rfl hl.1 rfl (lv_room (Nat.le_of_ble_eq_true rfl)) dX9_lot_48 ⟨Nat.le_of_ble_eq_true rfl, Nat.le_of_ble_eq_true rfl⟩) (fun r_41 k_42 => ?_)
  rcases k_42 with ⟨rfl, o_43⟩ | ⟨rfl, a_44, b_45⟩
  · refine lv_if_eq (tgt := 63) hx hb dX9_lot_51 (by decide) (fun c_46 => ?_) (fun c_46 => absurd (by decide) c_46)
    refine lv_iconst (v := (-1)) hx hb dX9_lot_63 (by decide) ?_
    have hP : va_P D vwCl (mw h0 ad cs (upd iv 3 (iv 3)) (uF (uF (uF (uF fv 4 (fv 4)) 5 (fv 5)) 6 (fv 6)) 7 (fv 7)) gv) s.heap := hP
    have hD : va_D A (mw h0 ad cs (upd iv 3 (iv 3)) (uF (uF (uF (uF fv 4 (fv 4)) 5 (fv 5)) 6 (fv 6)) 7 (fv 7)) gv) := hD
    have hP := hP
    rw [h3] at hP hD
    exact W.iret (v := (-1)) hx hb hr (fun t ht hW => ⟨⟨(-1), (-1), rfl, rfl, n3, fv 4, fv 5, fv 6, fv 7, by omega, ((if_pos (Or.inr (Or.inr (Or.inr (Or.inr (Or.inl o_43)))))).symm), ((if_pos (Or.inr (Or.inr (Or.inr (Or.inr (Or.inl o_43)))))).symm), Or.inl ⟨Or.inr (Or.inr (Or.inr (Or.inr (Or.inl o_43)))), rfl, rfl, rfl, rfl⟩, by rw [ht]; exact hP, va_K.moved hW.alike hK, hD⟩, hS.F ht⟩) hS.2.2 dX9_lot_64
  obtain ⟨j_47, hj_48, hj_49, rfl⟩ := is_nat (a := 0) (b := 3) a_44 b_45 (by omega)
  refine lv_if_eq (tgt := 63) hx hb dX9_lot_51 (by decide) (fun c_50 => absurd c_50 (by decide)) (fun c_50 => ?_)
  refine lv_aload_n hx hb dX9_lot_54 rfl (lv_at hl 0 rfl) ?_
  refine va_get (D := D) (ci := 9) (v := .int (iv 3)) (C := RX9) (T := TX9) (N := 44) hx hb hts hin9 hown hK hP 0 rfl rfl 3 (by decide) (hts (.fieldLink RX9 20 "HoneyHouseModel" "lots" "I") (List.mem_of_getElem? (i := 2) rfl)) (fun _ h9 => h9) rfl dX9_lot_55 ?_
  refine tp_i (y := nI n3) (h3) ?_
  refine lv_bipush (v := 40) hx hb dX9_lot_58 (by decide) ?_
  refine lv_icmp_ne (tgt := 65) hx hb dX9_lot_60 (by decide) (fun c_51 => ?_) (fun c_51 => ?_)
  · have d_52 := n_ne (a := n3) (b := 40) (by omega) (by omega) c_51
    refine lv_aload_n hx hb dX9_lot_65 rfl (lv_at hl 0 rfl) ?_
    refine va_get (D := D) (ci := 9) (v := .int (iv 3)) (C := RX9) (T := TX9) (N := 44) hx hb hts hin9 hown hK hP 0 rfl rfl 3 (by decide) (hts (.fieldLink RX9 20 "HoneyHouseModel" "lots" "I") (List.mem_of_getElem? (i := 2) rfl)) (fun _ h9 => h9) rfl dX9_lot_66 ?_
    refine tp_i (y := nI n3) (h3) ?_
    refine lv_istore (lv' := [(6, .int (nI n3)), (0, .ref h0), (1, .int (nI j_7)), (2, .int (nI j_17)), (3, .int (nI j_27)), (4, .int (nI j_37)), (5, .int (nI j_47))]) hx hb dX9_lot_69 hl (by decide) rfl (fun ls hl => ?_)
    refine lv_aload_n hx hb dX9_lot_71 rfl (lv_at hl 1 rfl) ?_
    refine lv_dup hx hb dX9_lot_72 rfl ?_
    refine va_get (D := D) (ci := 9) (v := .int (iv 3)) (C := RX9) (T := TX9) (N := 44) hx hb hts hin9 hown hK hP 0 rfl rfl 3 (by decide) (hts (.fieldLink RX9 20 "HoneyHouseModel" "lots" "I") (List.mem_of_getElem? (i := 2) rfl)) (fun _ h9 => h9) rfl dX9_lot_73 ?_
    refine tp_i (y := nI n3) (h3) ?_
    refine lv_iconst (v := 1) hx hb dX9_lot_76 (by decide) ?_
    refine lv_iadd hx hb dX9_lot_77 ?_
    refine tp_i (y := nI (n3 + 1)) (nI_add n3 1) ?_
    refine va_put (D := D) (ci := 9) (v := .int (nI (n3 + 1))) (ty := .int) (C := RX9) (T := TX9) (N := 44) hx hb hts hin9 tyX9 tyX9_ok nmX9 hown hK hP hD hS 0 rfl rfl 3 (by decide) (hts (.fieldLink RX9 20 "HoneyHouseModel" "lots" "I") (List.mem_of_getElem? (i := 2) rfl)) (fun _ h9 => h9) rfl (tyX9_ok 3 (by decide)) rfl rfl (Nat.le_of_ble_eq_true rfl) dX9_lot_78 (fun H locs hP hD hS => ?_)
    have hP : va_P D vwCl (mw h0 ad cs (upd iv 3 (nI (n3 + 1))) fv gv) H := hP
    have hD : va_D A (mw h0 ad cs (upd iv 3 (nI (n3 + 1))) fv gv) := hD
    refine lv_aload_n hx hb dX9_lot_81 rfl (lv_at hl 1 rfl) ?_
    refine va_get (D := D) (ci := 9) (v := .ref (ad 4)) (C := RX9) (T := TX9) (N := 44) hx hb hts hin9 hown hK hP 0 rfl rfl 4 (by decide) (hts (.fieldLink RX9 23 "HoneyHouseModel" "lot" "[I") (List.mem_of_getElem? (i := 3) rfl)) (fun _ h9 => h9) rfl dX9_lot_82 ?_
    refine lv_bipush (v := 7) hx hb dX9_lot_85 (by decide) ?_
    refine lv_iload hx hb dX9_lot_87 (lv_at hl 0 rfl) ?_
    refine lv_imul hx hb dX9_lot_89 ?_
    refine tp_i (y := nI (7 * n3)) (pk_mul 7 n3) ?_
    refine lv_iload_n hx hb dX9_lot_90 rfl (lv_at hl 2 rfl) ?_
    refine va_iast (f := fv 4) (n := 280) hx hb hK hP hD hS 2 1 rfl rfl (vp_in_nI (n := 7 * n3) (by omega) (by omega)) dX9_lot_91 (fun H locs hP hD hS => ?_)
    have hP : va_P D vwCl (mw h0 ad cs (upd iv 3 (nI (n3 + 1))) (uF fv 4 (upd (fv 4) (nI (7 * n3)).toNatClampNeg (nI j_7))) gv) H := hP
    have hD : va_D A (mw h0 ad cs (upd iv 3 (nI (n3 + 1))) (uF fv 4 (upd (fv 4) (nI (7 * n3)).toNatClampNeg (nI j_7))) gv) := hD
    obtain ⟨f_53, hf_54⟩ : ∃ g9, g9 = upd (fv 4) (nI (7 * n3)).toNatClampNeg (nI j_7) := ⟨_, rfl⟩
    rw [← hf_54] at hP hD
    rw [nI_clamp (n := 7 * n3) (by omega)] at hf_54
    refine lv_aload_n hx hb dX9_lot_92 rfl (lv_at hl 1 rfl) ?_
    refine va_get (D := D) (ci := 9) (v := .ref (ad 4)) (C := RX9) (T := TX9) (N := 44) hx hb hts hin9 hown hK hP 0 rfl rfl 4 (by decide) (hts (.fieldLink RX9 23 "HoneyHouseModel" "lot" "[I") (List.mem_of_getElem? (i := 3) rfl)) (fun _ h9 => h9) rfl dX9_lot_93 ?_
    refine lv_bipush (v := 7) hx hb dX9_lot_96 (by decide) ?_
    refine lv_iload hx hb dX9_lot_98 (lv_at hl 0 rfl) ?_
    refine lv_imul hx hb dX9_lot_100 ?_
    refine tp_i (y := nI (7 * n3)) (pk_mul 7 n3) ?_
    refine lv_iconst (v := 1) hx hb dX9_lot_101 (by decide) ?_
    refine lv_iadd hx hb dX9_lot_102 ?_
    refine tp_i (y := nI ((7 * n3) + 1)) (nI_add (7 * n3) 1) ?_
    refine lv_iload_n hx hb dX9_lot_103 rfl (lv_at hl 3 rfl) ?_
    refine va_iast (f := f_53) (n := 280) hx hb hK hP hD hS 2 1 rfl rfl (vp_in_nI (n := (7 * n3) + 1) (by omega) (by omega)) dX9_lot_104 (fun H locs hP hD hS => ?_)
    have hP : va_P D vwCl (mw h0 ad cs (upd iv 3 (nI (n3 + 1))) (uF fv 4 (upd f_53 (nI ((7 * n3) + 1)).toNatClampNeg (nI j_17))) gv) H := hP
    have hD : va_D A (mw h0 ad cs (upd iv 3 (nI (n3 + 1))) (uF fv 4 (upd f_53 (nI ((7 * n3) + 1)).toNatClampNeg (nI j_17))) gv) := hD
    obtain ⟨f_55, hf_56⟩ : ∃ g9, g9 = upd f_53 (nI ((7 * n3) + 1)).toNatClampNeg (nI j_17) := ⟨_, rfl⟩
    rw [← hf_56] at hP hD
    rw [nI_clamp (n := (7 * n3) + 1) (by omega)] at hf_56
    refine lv_aload_n hx hb dX9_lot_105 rfl (lv_at hl 1 rfl) ?_
    refine va_get (D := D) (ci := 9) (v := .ref (ad 4)) (C := RX9) (T := TX9) (N := 44) hx hb hts hin9 hown hK hP 0 rfl rfl 4 (by decide) (hts (.fieldLink RX9 23 "HoneyHouseModel" "lot" "[I") (List.mem_of_getElem? (i := 3) rfl)) (fun _ h9 => h9) rfl dX9_lot_106 ?_
    refine lv_bipush (v := 7) hx hb dX9_lot_109 (by decide) ?_
    refine lv_iload hx hb dX9_lot_111 (lv_at hl 0 rfl) ?_
    refine lv_imul hx hb dX9_lot_113 ?_
    refine tp_i (y := nI (7 * n3)) (pk_mul 7 n3) ?_
    refine lv_iconst (v := 2) hx hb dX9_lot_114 (by decide) ?_
    refine lv_iadd hx hb dX9_lot_115 ?_
    refine tp_i (y := nI ((7 * n3) + 2)) (nI_add (7 * n3) 2) ?_
    refine lv_iload_n hx hb dX9_lot_116 rfl (lv_at hl 4 rfl) ?_
    refine va_iast (f := f_55) (n := 280) hx hb hK hP hD hS 2 1 rfl rfl (vp_in_nI (n := (7 * n3) + 2) (by omega) (by omega)) dX9_lot_117 (fun H locs hP hD hS => ?_)
    have hP : va_P D vwCl (mw h0 ad cs (upd iv 3 (nI (n3 + 1))) (uF fv 4 (upd f_55 (nI ((7 * n3) + 2)).toNatClampNeg (nI j_27))) gv) H := hP
    have hD : va_D A (mw h0 ad cs (upd iv 3 (nI (n3 + 1))) (uF fv 4 (upd f_55 (nI ((7 * n3) + 2)).toNatClampNeg (nI j_27))) gv) := hD
    obtain ⟨f_57, hf_58⟩ : ∃ g9, g9 = upd f_55 (nI ((7 * n3) + 2)).toNatClampNeg (nI j_27) := ⟨_, rfl⟩
    rw [← hf_58] at hP hD
    rw [nI_clamp (n := (7 * n3) + 2) (by omega)] at hf_58
    refine lv_aload_n hx hb dX9_lot_118 rfl (lv_at hl 1 rfl) ?_
    refine va_get (D := D) (ci := 9) (v := .ref (ad 4)) (C := RX9) (T := TX9) (N := 44) hx hb hts hin9 hown hK hP 0 rfl rfl 4 (by decide) (hts (.fieldLink RX9 23 "HoneyHouseModel" "lot" "[I") (List.mem_of_getElem? (i := 3) rfl)) (fun _ h9 => h9) rfl dX9_lot_119 ?_
    refine lv_bipush (v := 7) hx hb dX9_lot_122 (by decide) ?_
    refine lv_iload hx hb dX9_lot_124 (lv_at hl 0 rfl) ?_
    refine lv_imul hx hb dX9_lot_126 ?_
    refine tp_i (y := nI (7 * n3)) (pk_mul 7 n3) ?_
    refine lv_iconst (v := 3) hx hb dX9_lot_127 (by decide) ?_
    refine lv_iadd hx hb dX9_lot_128 ?_
    refine tp_i (y := nI ((7 * n3) + 3)) (nI_add (7 * n3) 3) ?_
    refine lv_iload hx hb dX9_lot_129 (lv_at hl 5 rfl) ?_
    refine va_iast (f := f_57) (n := 280) hx hb hK hP hD hS 2 1 rfl rfl (vp_in_nI (n := (7 * n3) + 3) (by omega) (by omega)) dX9_lot_131 (fun H locs hP hD hS => ?_)
    have hP : va_P D vwCl (mw h0 ad cs (upd iv 3 (nI (n3 + 1))) (uF fv 4 (upd f_57 (nI ((7 * n3) + 3)).toNatClampNeg (nI j_37))) gv) H := hP
    have hD : va_D A (mw h0 ad cs (upd iv 3 (nI (n3 + 1))) (uF fv 4 (upd f_57 (nI ((7 * n3) + 3)).toNatClampNeg (nI j_37))) gv) := hD
    obtain ⟨f_59, hf_60⟩ : ∃ g9, g9 = upd f_57 (nI ((7 * n3) + 3)).toNatClampNeg (nI j_37) := ⟨_, rfl⟩
    rw [← hf_60] at hP hD
    rw [nI_clamp (n := (7 * n3) + 3) (by omega)] at hf_60
    refine lv_aload_n hx hb dX9_lot_132 rfl (lv_at hl 1 rfl) ?_
    refine va_get (D := D) (ci := 9) (v := .ref (ad 4)) (C := RX9) (T := TX9) (N := 44) hx hb hts hin9 hown hK hP 0 rfl rfl 4 (by decide) (hts (.fieldLink RX9 23 "HoneyHouseModel" "lot" "[I") (List.mem_of_getElem? (i := 3) rfl)) (fun _ h9 => h9) rfl dX9_lot_133 ?_
    refine lv_bipush (v := 7) hx hb dX9_lot_136 (by decide) ?_
    refine lv_iload hx hb dX9_lot_138 (lv_at hl 0 rfl) ?_
    refine lv_imul hx hb dX9_lot_140 ?_
    refine tp_i (y := nI (7 * n3)) (pk_mul 7 n3) ?_
    refine lv_iconst (v := 4) hx hb dX9_lot_141 (by decide) ?_
    refine lv_iadd hx hb dX9_lot_142 ?_
    refine tp_i (y := nI ((7 * n3) + 4)) (nI_add (7 * n3) 4) ?_
    refine lv_iload hx hb dX9_lot_143 (lv_at hl 6 rfl) ?_
    refine va_iast (f := f_59) (n := 280) hx hb hK hP hD hS 2 1 rfl rfl (vp_in_nI (n := (7 * n3) + 4) (by omega) (by omega)) dX9_lot_145 (fun H locs hP hD hS => ?_)
    have hP : va_P D vwCl (mw h0 ad cs (upd iv 3 (nI (n3 + 1))) (uF fv 4 (upd f_59 (nI ((7 * n3) + 4)).toNatClampNeg (nI j_47))) gv) H := hP
    have hD : va_D A (mw h0 ad cs (upd iv 3 (nI (n3 + 1))) (uF fv 4 (upd f_59 (nI ((7 * n3) + 4)).toNatClampNeg (nI j_47))) gv) := hD
    obtain ⟨f_61, hf_62⟩ : ∃ g9, g9 = upd f_59 (nI ((7 * n3) + 4)).toNatClampNeg (nI j_47) := ⟨_, rfl⟩
    rw [← hf_62] at hP hD
    rw [nI_clamp (n := (7 * n3) + 4) (by omega)] at hf_62
    refine lv_aload_n hx hb dX9_lot_146 rfl (lv_at hl 1 rfl) ?_
    refine va_get (D := D) (ci := 9) (v := .ref (ad 4)) (C := RX9) (T := TX9) (N := 44) hx hb hts hin9 hown hK hP 0 rfl rfl 4 (by decide) (hts (.fieldLink RX9 23 "HoneyHouseModel" "lot" "[I") (List.mem_of_getElem? (i := 3) rfl)) (fun _ h9 => h9) rfl dX9_lot_147 ?_
    refine lv_bipush (v := 7) hx hb dX9_lot_150 (by decide) ?_
    refine lv_iload hx hb dX9_lot_152 (lv_at hl 0 rfl) ?_
    refine lv_imul hx hb dX9_lot_154 ?_
    refine tp_i (y := nI (7 * n3)) (pk_mul 7 n3) ?_
    refine lv_iconst (v := 5) hx hb dX9_lot_155 (by decide) ?_
    refine lv_iadd hx hb dX9_lot_156 ?_
    refine tp_i (y := nI ((7 * n3) + 5)) (nI_add (7 * n3) 5) ?_
    refine lv_iload_n hx hb dX9_lot_157 rfl (lv_at hl 3 rfl) ?_
    refine va_iast (f := f_61) (n := 280) hx hb hK hP hD hS 2 1 rfl rfl (vp_in_nI (n := (7 * n3) + 5) (by omega) (by omega)) dX9_lot_158 (fun H locs hP hD hS => ?_)
    have hP : va_P D vwCl (mw h0 ad cs (upd iv 3 (nI (n3 + 1))) (uF fv 4 (upd f_61 (nI ((7 * n3) + 5)).toNatClampNeg (nI j_17))) gv) H := hP
    have hD : va_D A (mw h0 ad cs (upd iv 3 (nI (n3 + 1))) (uF fv 4 (upd f_61 (nI ((7 * n3) + 5)).toNatClampNeg (nI j_17))) gv) := hD
    obtain ⟨f_63, hf_64⟩ : ∃ g9, g9 = upd f_61 (nI ((7 * n3) + 5)).toNatClampNeg (nI j_17) := ⟨_, rfl⟩
    rw [← hf_64] at hP hD
    rw [nI_clamp (n := (7 * n3) + 5) (by omega)] at hf_64
    refine lv_iconst (v := 0) hx hb dX9_lot_159 (by decide) ?_
    refine lv_istore (lv' := [(7, .int 0), (6, .int (nI n3)), (0, .ref h0), (1, .int (nI j_7)), (2, .int (nI j_17)), (3, .int (nI j_27)), (4, .int (nI j_37)), (5, .int (nI j_47))]) hx hb dX9_lot_160 hl (by decide) rfl (fun ls hl => ?_)
    refine lp_V (nL := 8) (σ := Nat × (Nat → Int32) × (Nat → Int32)) (lv := fun x9 => [(7, .int (nI x9.1)), (6, .int (nI n3)), (3, .int (nI j_27)), (0, .ref h0)]) (μ := fun x9 => 5 - x9.1) (J := fun x9 ws9 => ws9 = (mw h0 ad cs (upd iv 3 (nI (n3 + 1))) (uF (uF (uF fv 4 f_63) 5 x9.2.1) 6 x9.2.2) gv) ∧ (x9.1 ≤ 5) ∧ (∀ i9 : Nat, i9 < 5 * n3 → x9.2.1 i9 = fv 5 i9) ∧ (∀ i9 : Nat, i9 < x9.1 → x9.2.1 (5 * n3 + i9) = 0) ∧ (∀ i9 : Nat, i9 < 5 * n3 → x9.2.2 i9 = fv 6 i9) ∧ (∀ i9 : Nat, i9 < x9.1 → x9.2.2 (5 * n3 + i9) = 1000)) (fun x9 ws9 H locs ls hj hP hD hS hl ih_65 => ?_) (0, fv 5, fv 6) (mw h0 ad cs (upd iv 3 (nI (n3 + 1))) (uF fv 4 f_63) gv) _ _ ls ⟨rfl, (show 0 ≤ 5 from by omega), (show ∀ i9 : Nat, i9 < 5 * n3 → (fv 5) i9 = fv 5 i9 from fun _ _ => rfl), (show ∀ i9 : Nat, i9 < 0 → (fv 5) (5 * n3 + i9) = 0 from fun i9 h9 => absurd h9 (by omega)), (show ∀ i9 : Nat, i9 < 5 * n3 → (fv 6) i9 = fv 6 i9 from fun _ _ => rfl), (show ∀ i9 : Nat, i9 < 0 → (fv 6) (5 * n3 + i9) = 1000 from fun i9 h9 => absurd h9 (by omega))⟩ hP hD hS (lv_sub hl [0, 1, 5, 2] rfl)
    obtain ⟨i_66, f5_67, f6_68⟩ := x9
    replace hj : ws9 = (mw h0 ad cs (upd iv 3 (nI (n3 + 1))) (uF (uF (uF fv 4 f_63) 5 f5_67) 6 f6_68) gv) ∧ (i_66 ≤ 5) ∧ (∀ i9 : Nat, i9 < 5 * n3 → f5_67 i9 = fv 5 i9) ∧ (∀ i9 : Nat, i9 < i_66 → f5_67 (5 * n3 + i9) = 0) ∧ (∀ i9 : Nat, i9 < 5 * n3 → f6_68 i9 = fv 6 i9) ∧ (∀ i9 : Nat, i9 < i_66 → f6_68 (5 * n3 + i9) = 1000) := hj
    obtain ⟨rfl, hi_69, ha5_70, hb5_71, ha6_72, hb6_73⟩ := hj
    have hl : lv_has ls 8 [(7, .int (nI i_66)), (6, .int (nI n3)), (3, .int (nI j_27)), (0, .ref h0)] := hl
    refine lv_iload hx hb dX9_lot_162 (lv_at hl 0 rfl) ?_
    refine lv_iconst (v := 5) hx hb dX9_lot_164 (by decide) ?_
    refine lv_icmp_ge (tgt := 202) hx hb dX9_lot_165 (by decide) (fun c_74 => ?_) (fun c_74 => ?_)
    · have d_75 := n_le (a := 5) (b := i_66) (by omega) (by omega) c_74
      refine lv_iconst (v := 0) hx hb dX9_lot_202 (by decide) ?_
      refine lv_istore (lv' := [(7, .int 0), (6, .int (nI n3)), (3, .int (nI j_27)), (0, .ref h0)]) hx hb dX9_lot_203 hl (by decide) rfl (fun ls hl => ?_)
      refine lp_V (nL := 8) (σ := Nat × (Nat → Int32)) (lv := fun x9 => [(7, .int (nI x9.1)), (6, .int (nI n3)), (3, .int (nI j_27)), (0, .ref h0)]) (μ := fun x9 => 8 - x9.1) (J := fun x9 ws9 => ws9 = (mw h0 ad cs (upd iv 3 (nI (n3 + 1))) (uF (uF (uF (uF fv 4 f_63) 5 f5_67) 6 f6_68) 7 x9.2) gv) ∧ (x9.1 ≤ 8) ∧ (∀ i9 : Nat, i9 < 8 * n3 → x9.2 i9 = fv 7 i9) ∧ (∀ i9 : Nat, i9 < x9.1 → x9.2 (8 * n3 + i9) = fv 8 i9)) (fun x9 ws9 H locs ls hj hP hD hS hl ih_76 => ?_) (0, fv 7) (mw h0 ad cs (upd iv 3 (nI (n3 + 1))) (uF (uF (uF fv 4 f_63) 5 f5_67) 6 f6_68) gv) _ _ ls ⟨rfl, (show 0 ≤ 8 from by omega), (show ∀ i9 : Nat, i9 < 8 * n3 → (fv 7) i9 = fv 7 i9 from fun _ _ => rfl), (show ∀ i9 : Nat, i9 < 0 → (fv 7) (8 * n3 + i9) = fv 8 i9 from fun i9 h9 => absurd h9 (by omega))⟩ hP hD hS (lv_sub hl [0, 1, 2, 3] rfl)
      obtain ⟨i_77, f7_78⟩ := x9
      replace hj : ws9 = (mw h0 ad cs (upd iv 3 (nI (n3 + 1))) (uF (uF (uF (uF fv 4 f_63) 5 f5_67) 6 f6_68) 7 f7_78) gv) ∧ (i_77 ≤ 8) ∧ (∀ i9 : Nat, i9 < 8 * n3 → f7_78 i9 = fv 7 i9) ∧ (∀ i9 : Nat, i9 < i_77 → f7_78 (8 * n3 + i9) = fv 8 i9) := hj
      obtain ⟨rfl, hi_79, ha7_80, hb7_81⟩ := hj
      have hl : lv_has ls 8 [(7, .int (nI i_77)), (6, .int (nI n3)), (3, .int (nI j_27)), (0, .ref h0)] := hl
      refine lv_iload hx hb dX9_lot_205 (lv_at hl 0 rfl) ?_
      refine lv_bipush (v := 8) hx hb dX9_lot_207 (by decide) ?_
      refine lv_icmp_ge (tgt := 238) hx hb dX9_lot_209 (by decide) (fun c_82 => ?_) (fun c_82 => ?_)
      · have d_83 := n_le (a := 8) (b := i_77) (by omega) (by omega) c_82
        refine lv_aload_n hx hb dX9_lot_238 rfl (lv_at hl 3 rfl) ?_
        refine va_get (D := D) (ci := 9) (v := .ref (ad 4)) (C := RX9) (T := TX9) (N := 44) hx hb hts hin9 hown hK hP 0 rfl rfl 4 (by decide) (hts (.fieldLink RX9 23 "HoneyHouseModel" "lot" "[I") (List.mem_of_getElem? (i := 3) rfl)) (fun _ h9 => h9) rfl dX9_lot_239 ?_
        refine lv_bipush (v := 7) hx hb dX9_lot_242 (by decide) ?_
        refine lv_iload hx hb dX9_lot_244 (lv_at hl 1 rfl) ?_
        refine lv_imul hx hb dX9_lot_246 ?_
        refine tp_i (y := nI (7 * n3)) (pk_mul 7 n3) ?_
        refine lv_bipush (v := 6) hx hb dX9_lot_247 (by decide) ?_
        refine lv_iadd hx hb dX9_lot_249 ?_
        refine tp_i (y := nI ((7 * n3) + 6)) (nI_add (7 * n3) 6) ?_
        refine lv_aload_n hx hb dX9_lot_250 rfl (lv_at hl 3 rfl) ?_
        refine lv_iload hx hb dX9_lot_251 (lv_at hl 1 rfl) ?_
        refine lv_iload_n hx hb dX9_lot_253 rfl (lv_at hl 2 rfl) ?_
        refine vp_callSi (W.runV (As := [.int (nI n3), .int (nI j_27)]) (rest := [.int (nI ((7 * n3) + 6)), .ref (ad 4)]) ⟨hx, hb, hml, hown, hts⟩ (m_pay l D h0 ad cs (upd iv 3 (nI (n3 + 1))) (uF (uF (uF (uF fv 4 f_63) 5 f5_67) 6 f6_68) 7 f7_78) gv  n3 (nI j_27)  (by omega)) (cwV 2 hts gX9_lot_X9_pay rfl rfl rfl (by decide +kernel) ⟨Nat.le_of_ble_eq_true rfl, Nat.le_of_ble_eq_true rfl⟩) ⟨fun a U g mk q => ⟨q.1, q.2.1, va_K.moved (u := U) (U := U.calling g mk a) (Vm.Alike.refl U.vm) q.2.2⟩, va_recv hK hP (ci := 9) (q0 := 0) rfl rfl, fun U hU hW => ⟨rfl, by rw [hU]; exact hP, va_K.moved hW.alike hK⟩⟩ rfl rfl hl.1 rfl (lv_room (Nat.le_of_ble_eq_true rfl)) dX9_lot_254 ⟨Nat.le_of_ble_eq_true rfl, Nat.le_of_ble_eq_true rfl⟩) (fun r_84 k_85 => ?_)
        have hp1 : ∀ i9 : Nat, i9 < 8 → f7_78 (8 * n3 + i9) = fv 8 i9 := fun i9 h9 => hb7_81 i9 (by omega)
        have hp2 : f_63 (7 * n3 + 1) = nI j_17 := by rw [hf_64, upd_n (by omega), hf_62, upd_n (by omega), hf_60, upd_n (by omega), hf_58, upd_n (by omega), hf_56, upd_s]
        obtain rfl : r_84 = payF (fun k => fv 8 (2 * k)) (fun k => fv 8 (2 * k + 1)) (nI j_17) (nI j_27) := k_85.trans (by show payF _ _ (f_63 (7 * n3 + 1)) _ = _; rw [hp2]; exact payF_congr (fun i9 h9 => hp1 (2 * i9) (by omega)) (fun i9 h9 => hp1 (2 * i9 + 1) (by omega)))
        refine va_iast (f := f_63) (n := 280) hx hb hK hP hD hS 2 1 rfl rfl (vp_in_nI (n := (7 * n3) + 6) (by omega) (by omega)) dX9_lot_257 (fun H locs hP hD hS => ?_)
        have hP : va_P D vwCl (mw h0 ad cs (upd iv 3 (nI (n3 + 1))) (uF (uF (uF (uF fv 4 (upd f_63 (nI ((7 * n3) + 6)).toNatClampNeg (payF (fun k => fv 8 (2 * k)) (fun k => fv 8 (2 * k + 1)) (nI j_17) (nI j_27)))) 5 f5_67) 6 f6_68) 7 f7_78) gv) H := hP
        have hD : va_D A (mw h0 ad cs (upd iv 3 (nI (n3 + 1))) (uF (uF (uF (uF fv 4 (upd f_63 (nI ((7 * n3) + 6)).toNatClampNeg (payF (fun k => fv 8 (2 * k)) (fun k => fv 8 (2 * k + 1)) (nI j_17) (nI j_27)))) 5 f5_67) 6 f6_68) 7 f7_78) gv) := hD
        obtain ⟨f_86, hf_87⟩ : ∃ g9, g9 = upd f_63 (nI ((7 * n3) + 6)).toNatClampNeg (payF (fun k => fv 8 (2 * k)) (fun k => fv 8 (2 * k + 1)) (nI j_17) (nI j_27)) := ⟨_, rfl⟩
        rw [← hf_87] at hP hD
        rw [nI_clamp (n := (7 * n3) + 6) (by omega)] at hf_87
        refine lv_iload hx hb dX9_lot_258 (lv_at hl 1 rfl) ?_
        have hP : va_P D vwCl (mw h0 ad cs (upd iv 3 (nI (n3 + 1))) (uF (uF (uF (uF fv 4 f_86) 5 f5_67) 6 f6_68) 7 f7_78) gv) H := hP
        have hD : va_D A (mw h0 ad cs (upd iv 3 (nI (n3 + 1))) (uF (uF (uF (uF fv 4 f_86) 5 f5_67) 6 f6_68) 7 f7_78) gv) := hD
        exact W.iret (v := nI n3) hx hb hr (fun t ht hW => ⟨⟨nI n3, nI n3, rfl, rfl, n3 + 1, f_86, f5_67, f6_68, f7_78, by omega, ((if_neg (fun h9 => by rcases h9 with (h9 | h9) | (h9 | h9) | (h9 | h9) | (h9 | h9) | (h9 | h9) | h9 <;> first | contradiction | omega)).symm), ((if_neg (fun h9 => by rcases h9 with (h9 | h9) | (h9 | h9) | (h9 | h9) | (h9 | h9) | (h9 | h9) | h9 <;> first | contradiction | omega)).symm), Or.inr ⟨fun h9 => by rcases h9 with (h9 | h9) | (h9 | h9) | (h9 | h9) | (h9 | h9) | (h9 | h9) | h9 <;> first | contradiction | omega, fun i9 h9 => by show f_86 i9 = fv 4 i9; rw [hf_87, upd_n (by omega), hf_64, upd_n (by omega), hf_62, upd_n (by omega), hf_60, upd_n (by omega), hf_58, upd_n (by omega), hf_56, upd_n (by omega), hf_54, upd_n (by omega)], ha5_70, ha6_72, ha7_80, rfl, by show f_86 (7 * n3) = _; rw [hf_87, upd_n (by omega), hf_64, upd_n (by omega), hf_62, upd_n (by omega), hf_60, upd_n (by omega), hf_58, upd_n (by omega), hf_56, upd_n (by omega), hf_54, upd_s], by show f_86 (7 * n3 + 1) = _; rw [hf_87, upd_n (by omega), hf_64, upd_n (by omega), hf_62, upd_n (by omega), hf_60, upd_n (by omega), hf_58, upd_n (by omega), hf_56, upd_s], by show f_86 (7 * n3 + 2) = _; rw [hf_87, upd_n (by omega), hf_64, upd_n (by omega), hf_62, upd_n (by omega), hf_60, upd_n (by omega), hf_58, upd_s], by show f_86 (7 * n3 + 3) = _; rw [hf_87, upd_n (by omega), hf_64, upd_n (by omega), hf_62, upd_n (by omega), hf_60, upd_s], by show f_86 (7 * n3 + 4) = _; rw [hf_87, upd_n (by omega), hf_64, upd_n (by omega), hf_62, upd_s], by show f_86 (7 * n3 + 5) = _; rw [hf_87, upd_n (by omega), hf_64, upd_s], by show f_86 (7 * n3 + 6) = _; rw [hf_87, upd_s], fun i9 h9 => hb5_71 i9 (by omega), fun i9 h9 => hb6_73 i9 (by omega), fun i9 h9 => hb7_81 i9 (by omega), rfl, rfl, rfl, rfl, rfl⟩, by rw [ht]; exact hP, va_K.moved hW.alike hK, hD⟩, hS.F ht⟩) hS.2.2 dX9_lot_260
      have d_88 := n_nle (a := 8) (b := i_77) (by omega) (by omega) c_82
      refine lv_aload_n hx hb dX9_lot_212 rfl (lv_at hl 3 rfl) ?_
      refine va_get (D := D) (ci := 9) (v := .ref (ad 7)) (C := RX9) (T := TX9) (N := 44) hx hb hts hin9 hown hK hP 0 rfl rfl 7 (by decide) (hts (.fieldLink RX9 32 "HoneyHouseModel" "lotSteps" "[I") (List.mem_of_getElem? (i := 6) rfl)) (fun _ h9 => h9) rfl dX9_lot_213 ?_
      refine lv_bipush (v := 8) hx hb dX9_lot_216 (by decide) ?_
      refine lv_iload hx hb dX9_lot_218 (lv_at hl 1 rfl) ?_
      refine lv_imul hx hb dX9_lot_220 ?_
      refine tp_i (y := nI (8 * n3)) (pk_mul 8 n3) ?_
      refine lv_iload hx hb dX9_lot_221 (lv_at hl 0 rfl) ?_
      refine lv_iadd hx hb dX9_lot_223 ?_
      refine tp_i (y := nI ((8 * n3) + i_77)) (nI_add (8 * n3) i_77) ?_
      refine lv_aload_n hx hb dX9_lot_224 rfl (lv_at hl 3 rfl) ?_
      refine va_get (D := D) (ci := 9) (v := .ref (ad 8)) (C := RX9) (T := TX9) (N := 44) hx hb hts hin9 hown hK hP 0 rfl rfl 8 (by decide) (hts (.fieldLink RX9 35 "HoneyHouseModel" "steps" "[I") (List.mem_of_getElem? (i := 7) rfl)) (fun _ h9 => h9) rfl dX9_lot_225 ?_
      refine lv_iload hx hb dX9_lot_228 (lv_at hl 0 rfl) ?_
      refine va_iald (f := fv 8) (n := 8) hx hb hK hP 6 5 rfl rfl (vp_in_nI (n := i_77) (by omega) (by omega)) dX9_lot_230 ?_
      refine lv_topi (fun z_89 hz_90 => ?_)
      rw [nI_clamp (n := i_77) (by omega)] at hz_90
      obtain rfl : z_89 = fv 8 i_77 := hz_90
      refine va_iast (f := f7_78) (n := 320) hx hb hK hP hD hS 5 4 rfl rfl (vp_in_nI (n := (8 * n3) + i_77) (by omega) (by omega)) dX9_lot_231 (fun H locs hP hD hS => ?_)
      have hP : va_P D vwCl (mw h0 ad cs (upd iv 3 (nI (n3 + 1))) (uF (uF (uF (uF fv 4 f_63) 5 f5_67) 6 f6_68) 7 (upd f7_78 (nI ((8 * n3) + i_77)).toNatClampNeg (fv 8 i_77))) gv) H := hP
      have hD : va_D A (mw h0 ad cs (upd iv 3 (nI (n3 + 1))) (uF (uF (uF (uF fv 4 f_63) 5 f5_67) 6 f6_68) 7 (upd f7_78 (nI ((8 * n3) + i_77)).toNatClampNeg (fv 8 i_77))) gv) := hD
      obtain ⟨f_91, hf_92⟩ : ∃ g9, g9 = upd f7_78 (nI ((8 * n3) + i_77)).toNatClampNeg (fv 8 i_77) := ⟨_, rfl⟩
      rw [← hf_92] at hP hD
      rw [nI_clamp (n := (8 * n3) + i_77) (by omega)] at hf_92
      refine lv_iinc (v := nI (i_77 + 1)) (lv' := [(7, .int (nI (i_77 + 1))), (6, .int (nI n3)), (3, .int (nI j_27)), (0, .ref h0)]) hx hb dX9_lot_232 hl (k := 0) rfl (nI_add i_77 1) (by decide) rfl (fun ls hl => ?_)
      refine lv_goto (tgt := 205) hx hb dX9_lot_235 (by decide) ?_
      exact ih_76 (i_77 + 1, f_91) (mw h0 ad cs (upd iv 3 (nI (n3 + 1))) (uF (uF (uF (uF fv 4 f_63) 5 f5_67) 6 f6_68) 7 f_91) gv) _ _ ls (by show 8 - (i_77 + 1) < 8 - i_77; omega) ⟨rfl, (show (i_77 + 1) ≤ 8 from by omega), (show ∀ i9 : Nat, i9 < 8 * n3 → f_91 i9 = fv 7 i9 from fun i9 h9 => by rw [hf_92, upd_n (by omega)]; exact ha7_80 i9 h9), (show ∀ i9 : Nat, i9 < (i_77 + 1) → f_91 (8 * n3 + i9) = fv 8 i9 from fun i9 h9 => by rw [hf_92]; exact row_c hb7_81 h9)⟩ hP hD hS (lv_sub hl [0, 1, 2, 3] rfl)
    have d_93 := n_nle (a := 5) (b := i_66) (by omega) (by omega) c_74
    refine lv_aload_n hx hb dX9_lot_168 rfl (lv_at hl 3 rfl) ?_
    refine va_get (D := D) (ci := 9) (v := .ref (ad 5)) (C := RX9) (T := TX9) (N := 44) hx hb hts hin9 hown hK hP 0 rfl rfl 5 (by decide) (hts (.fieldLink RX9 26 "HoneyHouseModel" "low" "[I") (List.mem_of_getElem? (i := 4) rfl)) (fun _ h9 => h9) rfl dX9_lot_169 ?_
    refine lv_iconst (v := 5) hx hb dX9_lot_172 (by decide) ?_
    refine lv_iload hx hb dX9_lot_173 (lv_at hl 1 rfl) ?_
    refine lv_imul hx hb dX9_lot_175 ?_
    refine tp_i (y := nI (5 * n3)) (pk_mul 5 n3) ?_
    refine lv_iload hx hb dX9_lot_176 (lv_at hl 0 rfl) ?_
    refine lv_iadd hx hb dX9_lot_178 ?_
    refine tp_i (y := nI ((5 * n3) + i_66)) (nI_add (5 * n3) i_66) ?_
    refine lv_iconst (v := 0) hx hb dX9_lot_179 (by decide) ?_
    refine va_iast (f := f5_67) (n := 200) hx hb hK hP hD hS 3 2 rfl rfl (vp_in_nI (n := (5 * n3) + i_66) (by omega) (by omega)) dX9_lot_180 (fun H locs hP hD hS => ?_)
    have hP : va_P D vwCl (mw h0 ad cs (upd iv 3 (nI (n3 + 1))) (uF (uF (uF fv 4 f_63) 5 (upd f5_67 (nI ((5 * n3) + i_66)).toNatClampNeg 0)) 6 f6_68) gv) H := hP
    have hD : va_D A (mw h0 ad cs (upd iv 3 (nI (n3 + 1))) (uF (uF (uF fv 4 f_63) 5 (upd f5_67 (nI ((5 * n3) + i_66)).toNatClampNeg 0)) 6 f6_68) gv) := hD
    obtain ⟨f_94, hf_95⟩ : ∃ g9, g9 = upd f5_67 (nI ((5 * n3) + i_66)).toNatClampNeg 0 := ⟨_, rfl⟩
    rw [← hf_95] at hP hD
    rw [nI_clamp (n := (5 * n3) + i_66) (by omega)] at hf_95
    refine lv_aload_n hx hb dX9_lot_181 rfl (lv_at hl 3 rfl) ?_
    refine va_get (D := D) (ci := 9) (v := .ref (ad 6)) (C := RX9) (T := TX9) (N := 44) hx hb hts hin9 hown hK hP 0 rfl rfl 6 (by decide) (hts (.fieldLink RX9 29 "HoneyHouseModel" "high" "[I") (List.mem_of_getElem? (i := 5) rfl)) (fun _ h9 => h9) rfl dX9_lot_182 ?_
    refine lv_iconst (v := 5) hx hb dX9_lot_185 (by decide) ?_
    refine lv_iload hx hb dX9_lot_186 (lv_at hl 1 rfl) ?_
    refine lv_imul hx hb dX9_lot_188 ?_
    refine tp_i (y := nI (5 * n3)) (pk_mul 5 n3) ?_
    refine lv_iload hx hb dX9_lot_189 (lv_at hl 0 rfl) ?_
    refine lv_iadd hx hb dX9_lot_191 ?_
    refine tp_i (y := nI ((5 * n3) + i_66)) (nI_add (5 * n3) i_66) ?_
    refine lv_sipush (v := 1000) hx hb dX9_lot_192 (by decide) ?_
    refine va_iast (f := f6_68) (n := 200) hx hb hK hP hD hS 4 3 rfl rfl (vp_in_nI (n := (5 * n3) + i_66) (by omega) (by omega)) dX9_lot_195 (fun H locs hP hD hS => ?_)
    have hP : va_P D vwCl (mw h0 ad cs (upd iv 3 (nI (n3 + 1))) (uF (uF (uF fv 4 f_63) 5 f_94) 6 (upd f6_68 (nI ((5 * n3) + i_66)).toNatClampNeg 1000)) gv) H := hP
    have hD : va_D A (mw h0 ad cs (upd iv 3 (nI (n3 + 1))) (uF (uF (uF fv 4 f_63) 5 f_94) 6 (upd f6_68 (nI ((5 * n3) + i_66)).toNatClampNeg 1000)) gv) := hD
    obtain ⟨f_96, hf_97⟩ : ∃ g9, g9 = upd f6_68 (nI ((5 * n3) + i_66)).toNatClampNeg 1000 := ⟨_, rfl⟩
    rw [← hf_97] at hP hD
    rw [nI_clamp (n := (5 * n3) + i_66) (by omega)] at hf_97
    refine lv_iinc (v := nI (i_66 + 1)) (lv' := [(7, .int (nI (i_66 + 1))), (6, .int (nI n3)), (3, .int (nI j_27)), (0, .ref h0)]) hx hb dX9_lot_196 hl (k := 0) rfl (nI_add i_66 1) (by decide) rfl (fun ls hl => ?_)
    refine lv_goto (tgt := 162) hx hb dX9_lot_199 (by decide) ?_
    exact ih_65 (i_66 + 1, f_94, f_96) (mw h0 ad cs (upd iv 3 (nI (n3 + 1))) (uF (uF (uF fv 4 f_63) 5 f_94) 6 f_96) gv) _ _ ls (by show 5 - (i_66 + 1) < 5 - i_66; omega) ⟨rfl, (show (i_66 + 1) ≤ 5 from by omega), (show ∀ i9 : Nat, i9 < 5 * n3 → f_94 i9 = fv 5 i9 from fun i9 h9 => by rw [hf_95, upd_n (by omega)]; exact ha5_70 i9 h9), (show ∀ i9 : Nat, i9 < (i_66 + 1) → f_94 (5 * n3 + i9) = 0 from fun i9 h9 => by rw [hf_95]; exact row_s hb5_71 h9), (show ∀ i9 : Nat, i9 < 5 * n3 → f_96 i9 = fv 6 i9 from fun i9 h9 => by rw [hf_97, upd_n (by omega)]; exact ha6_72 i9 h9), (show ∀ i9 : Nat, i9 < (i_66 + 1) → f_96 (5 * n3 + i9) = 1000 from fun i9 h9 => by rw [hf_97]; exact row_s hb6_73 h9)⟩ hP hD hS (lv_sub hl [0, 1, 2, 3] rfl)
  have d_98 := n_eq (a := n3) (b := 40) (by omega) (by omega) c_51
  refine lv_iconst (v := (-1)) hx hb dX9_lot_63 (by decide) ?_
  have hP : va_P D vwCl (mw h0 ad cs (upd iv 3 (iv 3)) (uF (uF (uF (uF fv 4 (fv 4)) 5 (fv 5)) 6 (fv 6)) 7 (fv 7)) gv) s.heap := hP
  have hD : va_D A (mw h0 ad cs (upd iv 3 (iv 3)) (uF (uF (uF (uF fv 4 (fv 4)) 5 (fv 5)) 6 (fv 6)) 7 (fv 7)) gv) := hD
  have hP := hP
  rw [h3] at hP hD
  exact W.iret (v := (-1)) hx hb hr (fun t ht hW => ⟨⟨(-1), (-1), rfl, rfl, n3, fv 4, fv 5, fv 6, fv 7, by omega, ((if_pos (Or.inr (Or.inr (Or.inr (Or.inr (Or.inr ((show n3 = 40 by omega)))))))).symm), ((if_pos (Or.inr (Or.inr (Or.inr (Or.inr (Or.inr ((show n3 = 40 by omega)))))))).symm), Or.inl ⟨Or.inr (Or.inr (Or.inr (Or.inr (Or.inr ((show n3 = 40 by omega)))))), rfl, rfl, rfl, rfl⟩, by rw [ht]; exact hP, va_K.moved hW.alike hK, hD⟩, hS.F ht⟩) hS.2.2 dX9_lot_64
