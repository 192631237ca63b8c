theorem dX9_full_0 : decode cX9_full 0 = .ok (.aload_n 0, 1) := by decide +kernel
theorem dX9_full_1 : decode cX9_full 1 = .ok (.dup, 1) := by decide +kernel
theorem dX9_full_2 : decode cX9_full 2 = .ok (.getfield 53, 3) := by decide +kernel
theorem dX9_full_5 : decode cX9_full 5 = .ok (.iconst 1, 1) := by decide +kernel
theorem dX9_full_6 : decode cX9_full 6 = .ok (.isub, 1) := by decide +kernel
theorem dX9_full_7 : decode cX9_full 7 = .ok (.putfield 53, 3) := by decide +kernel
theorem dX9_full_10 : decode cX9_full 10 = .ok (.aload_n 0, 1) := by decide +kernel
theorem dX9_full_11 : decode cX9_full 11 = .ok (.getfield 59, 3) := by decide +kernel
theorem dX9_full_14 : decode cX9_full 14 = .ok (.aload_n 0, 1) := by decide +kernel
theorem dX9_full_15 : decode cX9_full 15 = .ok (.getfield 53, 3) := by decide +kernel
theorem dX9_full_18 : decode cX9_full 18 = .ok (.iaload, 1) := by decide +kernel
theorem dX9_full_19 : decode cX9_full 19 = .ok (.istore_n 1, 1) := by decide +kernel
theorem dX9_full_20 : decode cX9_full 20 = .ok (.aload_n 0, 1) := by decide +kernel
theorem dX9_full_21 : decode cX9_full 21 = .ok (.getfield 62, 3) := by decide +kernel
theorem dX9_full_24 : decode cX9_full 24 = .ok (.aload_n 0, 1) := by decide +kernel
theorem dX9_full_25 : decode cX9_full 25 = .ok (.getfield 53, 3) := by decide +kernel
theorem dX9_full_28 : decode cX9_full 28 = .ok (.iaload, 1) := by decide +kernel
theorem dX9_full_29 : decode cX9_full 29 = .ok (.istore_n 2, 1) := by decide +kernel
theorem dX9_full_30 : decode cX9_full 30 = .ok (.iconst 0, 1) := by decide +kernel
theorem dX9_full_31 : decode cX9_full 31 = .ok (.istore_n 3, 1) := by decide +kernel
theorem dX9_full_32 : decode cX9_full 32 = .ok (.iload_n 3, 1) := by decide +kernel
theorem dX9_full_33 : decode cX9_full 33 = .ok (.bipush 12, 2) := by decide +kernel
theorem dX9_full_35 : decode cX9_full 35 = .ok (.if_icmp .ge 29, 3) := by decide +kernel
theorem dX9_full_38 : decode cX9_full 38 = .ok (.aload_n 0, 1) := by decide +kernel
theorem dX9_full_39 : decode cX9_full 39 = .ok (.getfield 108, 3) := by decide +kernel
theorem dX9_full_42 : decode cX9_full 42 = .ok (.iload_n 3, 1) := by decide +kernel
theorem dX9_full_43 : decode cX9_full 43 = .ok (.aload_n 0, 1) := by decide +kernel
theorem dX9_full_44 : decode cX9_full 44 = .ok (.getfield 56, 3) := by decide +kernel
theorem dX9_full_47 : decode cX9_full 47 = .ok (.bipush 12, 2) := by decide +kernel
theorem dX9_full_49 : decode cX9_full 49 = .ok (.aload_n 0, 1) := by decide +kernel
theorem dX9_full_50 : decode cX9_full 50 = .ok (.getfield 53, 3) := by decide +kernel
theorem dX9_full_53 : decode cX9_full 53 = .ok (.imul, 1) := by decide +kernel
theorem dX9_full_54 : decode cX9_full 54 = .ok (.iload_n 3, 1) := by decide +kernel
theorem dX9_full_55 : decode cX9_full 55 = .ok (.iadd, 1) := by decide +kernel
theorem dX9_full_56 : decode cX9_full 56 = .ok (.iaload, 1) := by decide +kernel
theorem dX9_full_57 : decode cX9_full 57 = .ok (.iastore, 1) := by decide +kernel
theorem dX9_full_58 : decode cX9_full 58 = .ok (.iinc 3 1, 3) := by decide +kernel
theorem dX9_full_61 : decode cX9_full 61 = .ok (.goto (-29), 3) := by decide +kernel
theorem dX9_full_64 : decode cX9_full 64 = .ok (.iconst 0, 1) := by decide +kernel
theorem dX9_full_65 : decode cX9_full 65 = .ok (.istore_n 3, 1) := by decide +kernel
theorem dX9_full_66 : decode cX9_full 66 = .ok (.iload_n 3, 1) := by decide +kernel
theorem dX9_full_67 : decode cX9_full 67 = .ok (.sipush 200, 3) := by decide +kernel
theorem dX9_full_70 : decode cX9_full 70 = .ok (.if_icmp .ge 30, 3) := by decide +kernel
theorem dX9_full_73 : decode cX9_full 73 = .ok (.aload_n 0, 1) := by decide +kernel
theorem dX9_full_74 : decode cX9_full 74 = .ok (.getfield 111, 3) := by decide +kernel
theorem dX9_full_77 : decode cX9_full 77 = .ok (.iload_n 3, 1) := by decide +kernel
theorem dX9_full_78 : decode cX9_full 78 = .ok (.aload_n 0, 1) := by decide +kernel
theorem dX9_full_79 : decode cX9_full 79 = .ok (.getfield 68, 3) := by decide +kernel
theorem dX9_full_82 : decode cX9_full 82 = .ok (.sipush 200, 3) := by decide +kernel
theorem dX9_full_85 : decode cX9_full 85 = .ok (.aload_n 0, 1) := by decide +kernel
theorem dX9_full_86 : decode cX9_full 86 = .ok (.getfield 53, 3) := by decide +kernel
theorem dX9_full_89 : decode cX9_full 89 = .ok (.imul, 1) := by decide +kernel
theorem dX9_full_90 : decode cX9_full 90 = .ok (.iload_n 3, 1) := by decide +kernel
theorem dX9_full_91 : decode cX9_full 91 = .ok (.iadd, 1) := by decide +kernel
theorem dX9_full_92 : decode cX9_full 92 = .ok (.iaload, 1) := by decide +kernel
theorem dX9_full_93 : decode cX9_full 93 = .ok (.iastore, 1) := by decide +kernel
theorem dX9_full_94 : decode cX9_full 94 = .ok (.iinc 3 1, 3) := by decide +kernel
theorem dX9_full_97 : decode cX9_full 97 = .ok (.goto (-31), 3) := by decide +kernel
theorem dX9_full_100 : decode cX9_full 100 = .ok (.aload_n 0, 1) := by decide +kernel
theorem dX9_full_101 : decode cX9_full 101 = .ok (.invokevirtual 265, 3) := by decide +kernel
theorem dX9_full_104 : decode cX9_full 104 = .ok (.iconst 0, 1) := by decide +kernel
theorem dX9_full_105 : decode cX9_full 105 = .ok (.istore_n 3, 1) := by decide +kernel
theorem dX9_full_106 : decode cX9_full 106 = .ok (.iload_n 3, 1) := by decide +kernel
theorem dX9_full_107 : decode cX9_full 107 = .ok (.bipush 12, 2) := by decide +kernel
theorem dX9_full_109 : decode cX9_full 109 = .ok (.if_icmp .ge 29, 3) := by decide +kernel
theorem dX9_full_112 : decode cX9_full 112 = .ok (.aload_n 0, 1) := by decide +kernel
theorem dX9_full_113 : decode cX9_full 113 = .ok (.getfield 56, 3) := by decide +kernel
theorem dX9_full_116 : decode cX9_full 116 = .ok (.bipush 12, 2) := by decide +kernel
theorem dX9_full_118 : decode cX9_full 118 = .ok (.aload_n 0, 1) := by decide +kernel
theorem dX9_full_119 : decode cX9_full 119 = .ok (.getfield 53, 3) := by decide +kernel
theorem dX9_full_122 : decode cX9_full 122 = .ok (.imul, 1) := by decide +kernel
theorem dX9_full_123 : decode cX9_full 123 = .ok (.iload_n 3, 1) := by decide +kernel
theorem dX9_full_124 : decode cX9_full 124 = .ok (.iadd, 1) := by decide +kernel
theorem dX9_full_125 : decode cX9_full 125 = .ok (.aload_n 0, 1) := by decide +kernel
theorem dX9_full_126 : decode cX9_full 126 = .ok (.getfield 108, 3) := by decide +kernel
theorem dX9_full_129 : decode cX9_full 129 = .ok (.iload_n 3, 1) := by decide +kernel
theorem dX9_full_130 : decode cX9_full 130 = .ok (.iaload, 1) := by decide +kernel
theorem dX9_full_131 : decode cX9_full 131 = .ok (.iastore, 1) := by decide +kernel
theorem dX9_full_132 : decode cX9_full 132 = .ok (.iinc 3 1, 3) := by decide +kernel
theorem dX9_full_135 : decode cX9_full 135 = .ok (.goto (-29), 3) := by decide +kernel
theorem dX9_full_138 : decode cX9_full 138 = .ok (.iconst 0, 1) := by decide +kernel
theorem dX9_full_139 : decode cX9_full 139 = .ok (.istore_n 3, 1) := by decide +kernel
theorem dX9_full_140 : decode cX9_full 140 = .ok (.iload_n 3, 1) := by decide +kernel
theorem dX9_full_141 : decode cX9_full 141 = .ok (.sipush 200, 3) := by decide +kernel
theorem dX9_full_144 : decode cX9_full 144 = .ok (.if_icmp .ge 30, 3) := by decide +kernel
theorem dX9_full_147 : decode cX9_full 147 = .ok (.aload_n 0, 1) := by decide +kernel
theorem dX9_full_148 : decode cX9_full 148 = .ok (.getfield 68, 3) := by decide +kernel
theorem dX9_full_151 : decode cX9_full 151 = .ok (.sipush 200, 3) := by decide +kernel
theorem dX9_full_154 : decode cX9_full 154 = .ok (.aload_n 0, 1) := by decide +kernel
theorem dX9_full_155 : decode cX9_full 155 = .ok (.getfield 53, 3) := by decide +kernel
theorem dX9_full_158 : decode cX9_full 158 = .ok (.imul, 1) := by decide +kernel
theorem dX9_full_159 : decode cX9_full 159 = .ok (.iload_n 3, 1) := by decide +kernel
theorem dX9_full_160 : decode cX9_full 160 = .ok (.iadd, 1) := by decide +kernel
theorem dX9_full_161 : decode cX9_full 161 = .ok (.aload_n 0, 1) := by decide +kernel
theorem dX9_full_162 : decode cX9_full 162 = .ok (.getfield 111, 3) := by decide +kernel
theorem dX9_full_165 : decode cX9_full 165 = .ok (.iload_n 3, 1) := by decide +kernel
theorem dX9_full_166 : decode cX9_full 166 = .ok (.iaload, 1) := by decide +kernel
theorem dX9_full_167 : decode cX9_full 167 = .ok (.iastore, 1) := by decide +kernel
theorem dX9_full_168 : decode cX9_full 168 = .ok (.iinc 3 1, 3) := by decide +kernel
theorem dX9_full_171 : decode cX9_full 171 = .ok (.goto (-31), 3) := by decide +kernel
theorem dX9_full_174 : decode cX9_full 174 = .ok (.aload_n 0, 1) := by decide +kernel
theorem dX9_full_175 : decode cX9_full 175 = .ok (.getfield 59, 3) := by decide +kernel
theorem dX9_full_178 : decode cX9_full 178 = .ok (.aload_n 0, 1) := by decide +kernel
theorem dX9_full_179 : decode cX9_full 179 = .ok (.getfield 53, 3) := by decide +kernel
theorem dX9_full_182 : decode cX9_full 182 = .ok (.iload_n 1, 1) := by decide +kernel
theorem dX9_full_183 : decode cX9_full 183 = .ok (.iastore, 1) := by decide +kernel
theorem dX9_full_184 : decode cX9_full 184 = .ok (.aload_n 0, 1) := by decide +kernel
theorem dX9_full_185 : decode cX9_full 185 = .ok (.getfield 62, 3) := by decide +kernel
theorem dX9_full_188 : decode cX9_full 188 = .ok (.aload_n 0, 1) := by decide +kernel
theorem dX9_full_189 : decode cX9_full 189 = .ok (.getfield 53, 3) := by decide +kernel
theorem dX9_full_192 : decode cX9_full 192 = .ok (.iload_n 2, 1) := by decide +kernel
theorem dX9_full_193 : decode cX9_full 193 = .ok (.iastore, 1) := by decide +kernel
theorem dX9_full_194 : decode cX9_full 194 = .ok (.aload_n 0, 1) := by decide +kernel
theorem dX9_full_195 : decode cX9_full 195 = .ok (.dup, 1) := by decide +kernel
theorem dX9_full_196 : decode cX9_full 196 = .ok (.getfield 53, 3) := by decide +kernel
theorem dX9_full_199 : decode cX9_full 199 = .ok (.iconst 1, 1) := by decide +kernel
theorem dX9_full_200 : decode cX9_full 200 = .ok (.iadd, 1) := by decide +kernel
theorem dX9_full_201 : decode cX9_full 201 = .ok (.putfield 53, 3) := by decide +kernel
theorem dX9_full_204 : decode cX9_full 204 = .ok (.aload_n 0, 1) := by decide +kernel
theorem dX9_full_205 : decode cX9_full 205 = .ok (.getfield 74, 3) := by decide +kernel
theorem dX9_full_208 : decode cX9_full 208 = .ok (.ifCond .le 7, 3) := by decide +kernel
theorem dX9_full_211 : decode cX9_full 211 = .ok (.iconst (-1), 1) := by decide +kernel
theorem dX9_full_212 : decode cX9_full 212 = .ok (.goto 5, 3) := by decide +kernel
theorem dX9_full_215 : decode cX9_full 215 = .ok (.bipush (-2), 2) := by decide +kernel
theorem dX9_full_217 : decode cX9_full 217 = .ok (.ireturn, 1) := by decide +kernel
theorem dX9_rule_0 : decode cX9_rule 0 = .ok (.aload_n 0, 1) := by decide +kernel
theorem dX9_rule_1 : decode cX9_rule 1 = .ok (.aload_n 0, 1) := by decide +kernel
theorem dX9_rule_2 : decode cX9_rule 2 = .ok (.getfield 13, 3) := by decide +kernel
theorem dX9_rule_5 : decode cX9_rule 5 = .ok (.putfield 90, 3) := by decide +kernel
theorem dX9_rule_8 : decode cX9_rule 8 = .ok (.aload_n 0, 1) := by decide +kernel
theorem dX9_rule_9 : decode cX9_rule 9 = .ok (.iconst 0, 1) := by decide +kernel
theorem dX9_rule_10 : decode cX9_rule 10 = .ok (.putfield 13, 3) := by decide +kernel
theorem dX9_rule_13 : decode cX9_rule 13 = .ok (.aload_n 0, 1) := by decide +kernel
theorem dX9_rule_14 : decode cX9_rule 14 = .ok (.iconst 0, 1) := by decide +kernel
theorem dX9_rule_15 : decode cX9_rule 15 = .ok (.putfield 74, 3) := by decide +kernel
theorem dX9_rule_18 : decode cX9_rule 18 = .ok (.aload_n 0, 1) := by decide +kernel
theorem dX9_rule_19 : decode cX9_rule 19 = .ok (.iconst (-1), 1) := by decide +kernel
theorem dX9_rule_20 : decode cX9_rule 20 = .ok (.putfield 77, 3) := by decide +kernel
theorem dX9_rule_23 : decode cX9_rule 23 = .ok (.aload_n 0, 1) := by decide +kernel
theorem dX9_rule_24 : decode cX9_rule 24 = .ok (.getfield 53, 3) := by decide +kernel
theorem dX9_rule_27 : decode cX9_rule 27 = .ok (.bipush 16, 2) := by decide +kernel
theorem dX9_rule_29 : decode cX9_rule 29 = .ok (.if_icmp .ne 8, 3) := by decide +kernel
theorem dX9_rule_32 : decode cX9_rule 32 = .ok (.aload_n 0, 1) := by decide +kernel
theorem dX9_rule_33 : decode cX9_rule 33 = .ok (.invokevirtual 262, 3) := by decide +kernel
theorem dX9_rule_36 : decode cX9_rule 36 = .ok (.ireturn, 1) := by decide +kernel
theorem dX9_rule_37 : decode cX9_rule 37 = .ok (.aload_n 0, 1) := by decide +kernel
theorem dX9_rule_38 : decode cX9_rule 38 = .ok (.invokevirtual 265, 3) := by decide +kernel
theorem dX9_rule_41 : decode cX9_rule 41 = .ok (.aload_n 0, 1) := by decide +kernel
theorem dX9_rule_42 : decode cX9_rule 42 = .ok (.getfield 74, 3) := by decide +kernel
theorem dX9_rule_45 : decode cX9_rule 45 = .ok (.ifCond .le 5, 3) := by decide +kernel
theorem dX9_rule_48 : decode cX9_rule 48 = .ok (.iconst (-1), 1) := by decide +kernel
theorem dX9_rule_49 : decode cX9_rule 49 = .ok (.ireturn, 1) := by decide +kernel
theorem dX9_rule_50 : decode cX9_rule 50 = .ok (.aload_n 0, 1) := by decide +kernel
theorem dX9_rule_51 : decode cX9_rule 51 = .ok (.getfield 71, 3) := by decide +kernel
theorem dX9_rule_54 : decode cX9_rule 54 = .ok (.aload_n 0, 1) := by decide +kernel
theorem dX9_rule_55 : decode cX9_rule 55 = .ok (.getfield 53, 3) := by decide +kernel
theorem dX9_rule_58 : decode cX9_rule 58 = .ok (.aload_n 0, 1) := by decide +kernel
theorem dX9_rule_59 : decode cX9_rule 59 = .ok (.getfield 102, 3) := by decide +kernel
theorem dX9_rule_62 : decode cX9_rule 62 = .ok (.iastore, 1) := by decide +kernel
theorem dX9_rule_63 : decode cX9_rule 63 = .ok (.aload_n 0, 1) := by decide +kernel
theorem dX9_rule_64 : decode cX9_rule 64 = .ok (.getfield 65, 3) := by decide +kernel
theorem dX9_rule_67 : decode cX9_rule 67 = .ok (.aload_n 0, 1) := by decide +kernel
theorem dX9_rule_68 : decode cX9_rule 68 = .ok (.getfield 53, 3) := by decide +kernel
theorem dX9_rule_71 : decode cX9_rule 71 = .ok (.iconst (-1), 1) := by decide +kernel
theorem dX9_rule_72 : decode cX9_rule 72 = .ok (.iastore, 1) := by decide +kernel
theorem dX9_rule_73 : decode cX9_rule 73 = .ok (.aload_n 0, 1) := by decide +kernel
theorem dX9_rule_74 : decode cX9_rule 74 = .ok (.dup, 1) := by decide +kernel
theorem dX9_rule_75 : decode cX9_rule 75 = .ok (.getfield 53, 3) := by decide +kernel
theorem dX9_rule_78 : decode cX9_rule 78 = .ok (.iconst 1, 1) := by decide +kernel
theorem dX9_rule_79 : decode cX9_rule 79 = .ok (.iadd, 1) := by decide +kernel
theorem dX9_rule_80 : decode cX9_rule 80 = .ok (.putfield 53, 3) := by decide +kernel
theorem dX9_rule_83 : decode cX9_rule 83 = .ok (.aload_n 0, 1) := by decide +kernel
theorem dX9_rule_84 : decode cX9_rule 84 = .ok (.getfield 53, 3) := by decide +kernel
theorem dX9_rule_87 : decode cX9_rule 87 = .ok (.iconst 1, 1) := by decide +kernel
theorem dX9_rule_88 : decode cX9_rule 88 = .ok (.isub, 1) := by decide +kernel
theorem dX9_rule_89 : decode cX9_rule 89 = .ok (.ireturn, 1) := by decide +kernel
set_option maxRecDepth 20000 in
theorem ggX9_full_X9_reads : GoodIn wsX9_full wsX9_reads := goodIn_r _ [13, 14, 8, 3, 1, 15, 16, 17, 12, 18, 2, 5, 19, 20, 21, 22, 23, 24, 25, 26, 27, 28, 29, 30, 31, 32, 33, 34, 35, 36, 37, 38, 39, 40, 41, 42, 43, 44, 45, 46, 47, 48, 49, 50, 51, 52, 53, 54, 55, 56, 57, 58, 59, 60, 61, 62, 63, 64, 65, 66, 67, 68, 69, 70, 71, 72, 73, 74, 75, 76, 77, 78, 79, 80, 81, 82, 83, 84, 85, 86, 87, 88, 89, 90, 91, 7, 92, 93, 94, 95, 96, 97, 98, 99, 100, 101, 102, 103, 104, 105, 106, 107, 108, 109, 110, 111, 112, 113, 114, 115, 116, 117, 118, 119, 120, 121, 122, 123, 124, 125, 126, 127, 128, 129, 130, 131, 132, 133, 134, 135, 136, 137, 138, 139, 140, 141, 142, 143, 144, 145, 146, 147] rfl (by decide +kernel)
set_option maxRecDepth 20000 in
theorem gX9_full_X9_reads : GoodIn wsX9_full (wsV RX9 265 RX9 yX9_reads wsX9_reads) := goodIn_app (goodIn_of _ (by decide +kernel)) ggX9_full_X9_reads
set_option maxRecDepth 20000 in
theorem ggX9_rule_X9_reads : GoodIn wsX9_rule wsX9_reads := goodIn_r _ [23, 24, 3, 15, 5, 25, 26, 27, 12, 28, 14, 17, 29, 30, 31, 32, 33, 2, 34, 35, 36, 37, 38, 39, 40, 4, 41, 42, 43, 44, 45, 46, 47, 48, 49, 50, 51, 52, 53, 54, 55, 56, 57, 58, 59, 60, 61, 62, 63, 64, 65, 66, 67, 68, 69, 70, 71, 72, 73, 7, 74, 75, 76, 77, 78, 79, 80, 81, 82, 83, 84, 85, 86, 87, 88, 89, 90, 91, 92, 93, 94, 95, 96, 97, 98, 19, 99, 100, 101, 102, 103, 104, 105, 106, 107, 108, 109, 110, 111, 112, 113, 114, 115, 116, 117, 118, 119, 120, 121, 122, 123, 124, 125, 126, 127, 128, 129, 130, 131, 132, 133, 134, 135, 136, 137, 138, 139, 140, 141, 142, 143, 144, 145, 146, 147, 148, 149, 150, 151, 152, 153, 154] rfl (by decide +kernel)
set_option maxRecDepth 20000 in
theorem gX9_rule_X9_reads : GoodIn wsX9_rule (wsV RX9 265 RX9 yX9_reads wsX9_reads) := goodIn_app (goodIn_of _ (by decide +kernel)) ggX9_rule_X9_reads
set_option maxRecDepth 20000 in
theorem ggX9_rule_X9_full : GoodIn wsX9_rule wsX9_full := goodIn_r _ [13, 5, 14, 15, 16, 17, 18, 19, 3, 20, 21, 22, 12, 23, 24, 25, 26, 27, 28, 29, 30, 31, 32, 33, 2, 34, 35, 36, 37, 38, 39, 40, 4, 41, 42, 43, 44, 45, 46, 47, 48, 49, 50, 51, 52, 53, 54, 55, 56, 57, 58, 59, 60, 61, 62, 63, 64, 65, 66, 67, 68, 69, 70, 71, 72, 73, 7, 74, 75, 76, 77, 78, 79, 80, 81, 82, 83, 84, 85, 86, 87, 88, 89, 90, 91, 92, 93, 94, 95, 96, 97, 98, 99, 100, 101, 102, 103, 104, 105, 106, 107, 108, 109, 110, 111, 112, 113, 114, 115, 116, 117, 118, 119, 120, 121, 122, 123, 124, 125, 126, 127, 128, 129, 130, 131, 132, 133, 134, 135, 136, 137, 138, 139, 140, 141, 142, 143, 144, 145, 146, 147, 148, 149, 150, 151, 152, 153, 154] rfl (by decide +kernel)
set_option maxRecDepth 20000 in
theorem gX9_rule_X9_full : GoodIn wsX9_rule (wsV RX9 262 RX9 yX9_full wsX9_full) := goodIn_app (goodIn_of _ (by decide +kernel)) ggX9_rule_X9_full
set_option maxHeartbeats 4000000 in
set_option maxRecDepth 100000 in
theorem m_full (l : Launch) (D : va_G) (h0 : Nat) (ad : Nat → Nat) (cs : Nat → ClassId) (iv : Nat → Int32) (fv : Nat → Nat → Int32) (gv : Nat → Int64) (n14 n21 n26 : Nat)  (sz : Nat) (h14 : iv 14 = nI n14) (h21 : iv 21 = nI n21) (h26 : iv 26 = nI n26) (z14 : n14 = 16) (z21 : n21 = 0) (b26 : n26 ≤ 400) : Met l yX9_full wsX9_full ({ frames := 6, cells := 0, slots := 0, locals := 135 }) (va_Pc [.ref h0] (fun U => U.heap.size = sz ∧ va_P D vwCl (mw h0 ad cs iv fv gv) U.heap ∧ va_K D vwCl (mT cs) U ∧ va_D (fun _ => True) (mw h0 ad cs iv fv gv))) (va_Qi (fun (r u : Int32) => r = u) (fun (r : Int32) (t : State) => ∃ (k14 : Nat) (k21 : Nat) (p22 : Int32) (p25 : Int32) (p29 : Int32) (p30 : Int32) (p31 : Int32) (f15 : Nat → Int32) (f16 : Nat → Int32) (f17 : Nat → Int32) (f19 : Nat → Int32) (f28 : Nat → Int32) (f32 : Nat → Int32) (f33 : Nat → Int32), (k14 = n14) ∧ (k21 ≤ 3) ∧ (∀ i : Nat, i < 200 * n14 → f19 i = fv 19 i) ∧ (∀ i : Nat, f16 i = fv 16 i) ∧ va_P D vwCl (mw h0 ad cs (upd (upd (upd (upd (upd (upd (upd iv 14 (nI k14)) 21 (nI k21)) 22 p22) 25 p25) 29 p29) 30 p30) 31 p31) (uF (uF (uF (uF (uF (uF (uF fv 15 f15) 16 f16) 17 f17) 19 f19) 28 f28) 32 f32) 33 f33) gv) t.heap ∧ va_K D vwCl (mT cs) t ∧ va_D (va_A (mw h0 ad cs iv fv gv) sz) (mw h0 ad cs (upd (upd (upd (upd (upd (upd (upd iv 14 (nI k14)) 21 (nI k21)) 22 p22) 25 p25) 29 p29) 30 p30) 31 p31) (uF (uF (uF (uF (uF (uF (uF fv 15 f15) 16 f16) 17 f17) 19 f19) 28 f28) 32 f32) 33 f33) gv)) (va_A (mw h0 ad cs iv fv gv) sz)) 0 0 (va_A (mw h0 ad cs iv fv gv) sz) := by
  refine Met.ofW (cc := cX9_full) (maxL := 4) (ret := (some .int)) (by decide) rfl ?_
  intro p e s m args below meth c s₁ B hml hv
  obtain ⟨rfl, hsz, hP, hK, hD0⟩ := hv
  have hx := B.exec
  have hb := B.bytes
  have hr := B.returns
  have hts := atoms_spec (ws := wsX9_full) B.pre
  have hown : s.vm.findClass RX9 = some m.cls := findClass_of_methodNamed B.named
  have hlocks := B.notSynchronized
  subst hsz
  have hD := hD0.self (sz := s.heap.size)
  generalize hAe : va_A (mw h0 ad cs iv fv gv) s.heap.size = A at hD ⊢
  have hA : ∀ q : Nat, s.heap.size ≤ q → A q := fun q h => by rw [← hAe]; exact Or.inr h
  have hS : va_S A s.heap s.heap [] := va_S.rf
  have hin9 : ∀ w ∈ u_ws RX9 TX9 44, w ∈ wsX9_full := (fun _ h9 => List.mem_cons_of_mem _ ((List.mem_append_right _ h9)))
  have hl := lv_entry ([.ref h0]) (n := 4) (Nat.le_of_ble_eq_true rfl)
  rw [lg_entry_eq]
  generalize (lg_sl ([.ref h0]) ++ List.replicate (4 - (lg_sl ([.ref h0])).length) Slot.unset).toArray = ls at hl ⊢
  have hl : lv_has ls 4 [(0, .ref h0)] := hl
  refine lv_aload_n hx hb dX9_full_0 rfl (lv_at hl 0 rfl) ?_
  refine lv_dup hx hb dX9_full_1 rfl ?_
  refine va_get (D := D) (ci := 9) (v := .int (iv 14)) (C := RX9) (T := TX9) (N := 44) hx hb hts hin9 hown hK hP 0 rfl rfl 14 (by decide) (hts (.fieldLink RX9 53 "HoneyHouseModel" "rules" "I") (List.mem_of_getElem? (i := 1) rfl)) (fun _ h9 => h9) rfl dX9_full_2 ?_
  refine tp_i (y := nI n14) (h14) ?_
  refine lv_iconst (v := 1) hx hb dX9_full_5 (by decide) ?_
  refine lv_isub hx hb dX9_full_6 ?_
  refine tp_i (y := nI (n14 - 1)) (pk_sub (a := n14) (b := 1) (by omega)) ?_
  refine va_put (D := D) (ci := 9) (v := .int (nI (n14 - 1))) (ty := .int) (C := RX9) (T := TX9) (N := 44) hx hb hts hin9 tyX9 tyX9_ok nmX9 hown hK hP hD hS 0 rfl rfl 14 (by decide) (hts (.fieldLink RX9 53 "HoneyHouseModel" "rules" "I") (List.mem_of_getElem? (i := 1) rfl)) (fun _ h9 => h9) rfl (tyX9_ok 14 (by decide)) rfl rfl (Nat.le_of_ble_eq_true rfl) dX9_full_7 (fun H locs hP hD hS => ?_)
  have hP : va_P D vwCl (mw h0 ad cs (upd iv 14 (nI (n14 - 1))) fv gv) H := hP
  have hD : va_D A (mw h0 ad cs (upd iv 14 (nI (n14 - 1))) fv gv) := hD
  refine lv_aload_n hx hb dX9_full_10 rfl (lv_at hl 0 rfl) ?_
  refine va_get (D := D) (ci := 9) (v := .ref (ad 16)) (C := RX9) (T := TX9) (N := 44) hx hb hts hin9 hown hK hP 0 rfl rfl 16 (by decide) (hts (.fieldLink RX9 59 "HoneyHouseModel" "nameSize" "[I") (List.mem_of_getElem? (i := 2) rfl)) (fun _ h9 => h9) rfl dX9_full_11 ?_
  refine lv_aload_n hx hb dX9_full_14 rfl (lv_at hl 0 rfl) ?_
  refine va_get (D := D) (ci := 9) (v := .int (nI (n14 - 1))) (C := RX9) (T := TX9) (N := 44) hx hb hts hin9 hown hK hP 0 rfl rfl 14 (by decide) (hts (.fieldLink RX9 53 "HoneyHouseModel" "rules" "I") (List.mem_of_getElem? (i := 1) rfl)) (fun _ h9 => h9) rfl dX9_full_15 ?_
  refine va_iald (f := fv 16) (n := 16) hx hb hK hP 12 11 rfl rfl (vp_in_nI (n := n14 - 1) (by omega) (by omega)) dX9_full_18 ?_
  refine lv_topi (fun z_1 hz_2 => ?_)
  rw [nI_clamp (n := n14 - 1) (by omega)] at hz_2
  refine lv_istore_n (lv' := [(1, .int z_1), (0, .ref h0)]) hx hb dX9_full_19 rfl hl (by decide) rfl (fun ls hl => ?_)
  refine lv_aload_n hx hb dX9_full_20 rfl (lv_at hl 1 rfl) ?_
  refine va_get (D := D) (ci := 9) (v := .ref (ad 17)) (C := RX9) (T := TX9) (N := 44) hx hb hts hin9 hown hK hP 0 rfl rfl 17 (by decide) (hts (.fieldLink RX9 62 "HoneyHouseModel" "from" "[I") (List.mem_of_getElem? (i := 3) rfl)) (fun _ h9 => h9) rfl dX9_full_21 ?_
  refine lv_aload_n hx hb dX9_full_24 rfl (lv_at hl 1 rfl) ?_
  refine va_get (D := D) (ci := 9) (v := .int (nI (n14 - 1))) (C := RX9) (T := TX9) (N := 44) hx hb hts hin9 hown hK hP 0 rfl rfl 14 (by decide) (hts (.fieldLink RX9 53 "HoneyHouseModel" "rules" "I") (List.mem_of_getElem? (i := 1) rfl)) (fun _ h9 => h9) rfl dX9_full_25 ?_
  refine va_iald (f := fv 17) (n := 16) hx hb hK hP 13 12 rfl rfl (vp_in_nI (n := n14 - 1) (by omega) (by omega)) dX9_full_28 ?_
  refine lv_topi (fun z_3 hz_4 => ?_)
  refine lv_istore_n (lv' := [(2, .int z_3), (1, .int z_1), (0, .ref h0)]) hx hb dX9_full_29 rfl hl (by decide) rfl (fun ls hl => ?_)
  refine lv_iconst (v := 0) hx hb dX9_full_30 (by decide) ?_
  refine lv_istore_n (lv' := [(3, .int 0), (2, .int z_3), (1, .int z_1), (0, .ref h0)]) hx hb dX9_full_31 rfl hl (by decide) rfl (fun ls hl => ?_)
  refine lp_V (nL := 4) (σ := Nat × (Nat → Int32)) (lv := fun x9 => [(3, .int (nI x9.1)), (2, .int z_3), (1, .int z_1), (0, .ref h0)]) (μ := fun x9 => 12 - x9.1) (J := fun x9 ws9 => ws9 = (mw h0 ad cs (upd iv 14 (nI (n14 - 1))) (uF fv 32 x9.2) gv) ∧ (x9.1 ≤ 12)) (fun x9 ws9 H locs ls hj hP hD hS hl ih_5 => ?_) (0, fv 32) (mw h0 ad cs (upd iv 14 (nI (n14 - 1))) fv gv) _ _ ls ⟨rfl, (show 0 ≤ 12 from by omega)⟩ hP hD hS (lv_sub hl [0, 1, 2, 3] rfl)
  obtain ⟨i_6, f32_7⟩ := x9
  replace hj : ws9 = (mw h0 ad cs (upd iv 14 (nI (n14 - 1))) (uF fv 32 f32_7) gv) ∧ (i_6 ≤ 12) := hj
  obtain ⟨rfl, hi_8⟩ := hj
  have hl : lv_has ls 4 [(3, .int (nI i_6)), (2, .int z_3), (1, .int z_1), (0, .ref h0)] := hl
  refine lv_iload_n hx hb dX9_full_32 rfl (lv_at hl 0 rfl) ?_
  refine lv_bipush (v := 12) hx hb dX9_full_33 (by decide) ?_
  refine lv_icmp_ge (tgt := 64) hx hb dX9_full_35 (by decide) (fun c_9 => ?_) (fun c_9 => ?_)
  · have d_10 := n_le (a := 12) (b := i_6) (by omega) (by omega) c_9
    refine lv_iconst (v := 0) hx hb dX9_full_64 (by decide) ?_
    refine lv_istore_n (lv' := [(3, .int 0), (2, .int z_3), (1, .int z_1), (0, .ref h0)]) hx hb dX9_full_65 rfl hl (by decide) rfl (fun ls hl => ?_)
    refine lp_V (nL := 4) (σ := Nat × (Nat → Int32)) (lv := fun x9 => [(3, .int (nI x9.1)), (2, .int z_3), (1, .int z_1), (0, .ref h0)]) (μ := fun x9 => 200 - x9.1) (J := fun x9 ws9 => ws9 = (mw h0 ad cs (upd iv 14 (nI (n14 - 1))) (uF (uF fv 32 f32_7) 33 x9.2) gv) ∧ (x9.1 ≤ 200) ∧ (∀ j9 : Nat, j9 < x9.1 → x9.2 j9 = fv 19 (200 * (n14 - 1) + j9))) (fun x9 ws9 H locs ls hj hP hD hS hl ih_11 => ?_) (0, fv 33) (mw h0 ad cs (upd iv 14 (nI (n14 - 1))) (uF fv 32 f32_7) gv) _ _ ls ⟨rfl, (show 0 ≤ 200 from by omega), (show ∀ j9 : Nat, j9 < 0 → (fv 33) j9 = fv 19 (200 * (n14 - 1) + j9) from fun j9 h9 => absurd h9 (by omega))⟩ hP hD hS (lv_sub hl [0, 1, 2, 3] rfl)
    obtain ⟨i_12, f33_13⟩ := x9
    replace hj : ws9 = (mw h0 ad cs (upd iv 14 (nI (n14 - 1))) (uF (uF fv 32 f32_7) 33 f33_13) gv) ∧ (i_12 ≤ 200) ∧ (∀ j9 : Nat, j9 < i_12 → f33_13 j9 = fv 19 (200 * (n14 - 1) + j9)) := hj
    obtain ⟨rfl, hi_14, hk_15⟩ := hj
    have hl : lv_has ls 4 [(3, .int (nI i_12)), (2, .int z_3), (1, .int z_1), (0, .ref h0)] := hl
    refine lv_iload_n hx hb dX9_full_66 rfl (lv_at hl 0 rfl) ?_
    refine lv_sipush (v := 200) hx hb dX9_full_67 (by decide) ?_
    refine lv_icmp_ge (tgt := 100) hx hb dX9_full_70 (by decide) (fun c_16 => ?_) (fun c_16 => ?_)
    · have d_17 := n_le (a := 200) (b := i_12) (by omega) (by omega) c_16
      refine lv_aload_n hx hb dX9_full_100 rfl (lv_at hl 3 rfl) ?_
      have hFc := free_all hD hS hA
      refine va_callv (va_runV (As := []) (rest := []) ⟨hx, hb, hml, hown, hts⟩ (m_reads l D h0 ad cs (upd iv 14 (nI (n14 - 1))) (uF (uF fv 32 f32_7) 33 f33_13) gv (n14 - 1) n21 n26  H.size rfl h21 h26 (by omega) (by omega) (by omega)) (cwV 0 hts gX9_full_X9_reads rfl rfl rfl (by decide +kernel) ⟨Nat.le_of_ble_eq_true rfl, Nat.le_of_ble_eq_true rfl⟩) ⟨fun a U g mk q => by obtain ⟨q0, q1, qP, qK, qD⟩ := q; exact ⟨q0, q1, qP, va_K.moved (u := U) (U := U.calling g mk a) (Vm.Alike.refl U.vm) qK, qD⟩, va_recv hK hP (ci := 9) (q0 := 0) rfl rfl, fun U hU hW => ⟨rfl, by rw [hU], by rw [hU]; exact hP, va_K.moved hW.alike hK, hD.weaken (fun _ _ _ _ => trivial)⟩⟩ rfl rfl hl.1 rfl (lv_room (Nat.le_of_ble_eq_true rfl)) dX9_full_101 ⟨Nat.le_of_ble_eq_true rfl, Nat.le_of_ble_eq_true rfl⟩) hS (fun q _ h => hFc q h) hFc (fun u t H1 locs ht hvm w_19 hB hz1 hk1 hS => ?_)
      obtain ⟨k21_20, p22_21, p25_22, p29_23, p30_24, p31_25, f15_26, f16_27, f17_28, f19_29, f28_30, q_31, q_32, q_33, q_34, hP1, hK1, hD1⟩ := hB
      replace q_32 : ∀ i : Nat, i < 200 * (n14 - 1) → f19_29 i = (fv 19) i := q_32
      replace q_33 : ∀ i : Nat, ¬ i = (n14 - 1) → f16_27 i = (fv 16) i := q_33
      rw [ht] at hP1
      have hK := va_K.moved hvm.symm hK1
      generalize H1 = H at hP1 hS ⊢
      have hP : va_P D vwCl (mw h0 ad cs (upd (upd (upd (upd (upd (upd (upd iv 14 (nI (n14 - 1))) 21 (nI k21_20)) 22 p22_21) 25 p25_22) 29 p29_23) 30 p30_24) 31 p31_25) (uF (uF (uF (uF (uF (uF (uF fv 15 f15_26) 16 f16_27) 17 f17_28) 19 f19_29) 28 f28_30) 32 f32_7) 33 f33_13) gv) H := hP1
      have hD : va_D A (mw h0 ad cs (upd (upd (upd (upd (upd (upd (upd iv 14 (nI (n14 - 1))) 21 (nI k21_20)) 22 p22_21) 25 p25_22) 29 p29_23) 30 p30_24) 31 p31_25) (uF (uF (uF (uF (uF (uF (uF fv 15 f15_26) 16 f16_27) 17 f17_28) 19 f19_29) 28 f28_30) 32 f32_7) 33 f33_13) gv) := hD1.weaken (fun _ _ _ h => hFc _ h)
      refine lv_iconst (v := 0) hx hb dX9_full_104 (by decide) ?_
      refine lv_istore_n (lv' := [(3, .int 0), (2, .int z_3), (1, .int z_1), (0, .ref h0)]) hx hb dX9_full_105 rfl hl (by decide) rfl (fun ls hl => ?_)
      refine lp_V (nL := 4) (σ := Nat × (Nat → Int32)) (lv := fun x9 => [(3, .int (nI x9.1)), (2, .int z_3), (1, .int z_1), (0, .ref h0)]) (μ := fun x9 => 12 - x9.1) (J := fun x9 ws9 => ws9 = (mw h0 ad cs (upd (upd (upd (upd (upd (upd (upd iv 14 (nI (n14 - 1))) 21 (nI k21_20)) 22 p22_21) 25 p25_22) 29 p29_23) 30 p30_24) 31 p31_25) (uF (uF (uF (uF (uF (uF (uF fv 15 x9.2) 16 f16_27) 17 f17_28) 19 f19_29) 28 f28_30) 32 f32_7) 33 f33_13) gv) ∧ (x9.1 ≤ 12)) (fun x9 ws9 H locs ls hj hP hD hS hl ih_35 => ?_) (0, f15_26) (mw h0 ad cs (upd (upd (upd (upd (upd (upd (upd iv 14 (nI (n14 - 1))) 21 (nI k21_20)) 22 p22_21) 25 p25_22) 29 p29_23) 30 p30_24) 31 p31_25) (uF (uF (uF (uF (uF (uF (uF fv 15 f15_26) 16 f16_27) 17 f17_28) 19 f19_29) 28 f28_30) 32 f32_7) 33 f33_13) gv) _ _ ls ⟨rfl, (show 0 ≤ 12 from by omega)⟩ hP hD hS (lv_sub hl [0, 1, 2, 3] rfl)
      obtain ⟨i_36, f15_37⟩ := x9
      replace hj : ws9 = (mw h0 ad cs (upd (upd (upd (upd (upd (upd (upd iv 14 (nI (n14 - 1))) 21 (nI k21_20)) 22 p22_21) 25 p25_22) 29 p29_23) 30 p30_24) 31 p31_25) (uF (uF (uF (uF (uF (uF (uF fv 15 f15_37) 16 f16_27) 17 f17_28) 19 f19_29) 28 f28_30) 32 f32_7) 33 f33_13) gv) ∧ (i_36 ≤ 12) := hj
      obtain ⟨rfl, hi_38⟩ := hj
      have hl : lv_has ls 4 [(3, .int (nI i_36)), (2, .int z_3), (1, .int z_1), (0, .ref h0)] := hl
      refine lv_iload_n hx hb dX9_full_106 rfl (lv_at hl 0 rfl) ?_
      refine lv_bipush (v := 12) hx hb dX9_full_107 (by decide) ?_
      refine lv_icmp_ge (tgt := 138) hx hb dX9_full_109 (by decide) (fun c_39 => ?_) (fun c_39 => ?_)
      · have d_40 := n_le (a := 12) (b := i_36) (by omega) (by omega) c_39
        refine lv_iconst (v := 0) hx hb dX9_full_138 (by decide) ?_
        refine lv_istore_n (lv' := [(3, .int 0), (2, .int z_3), (1, .int z_1), (0, .ref h0)]) hx hb dX9_full_139 rfl hl (by decide) rfl (fun ls hl => ?_)
        refine lp_V (nL := 4) (σ := Nat × (Nat → Int32)) (lv := fun x9 => [(3, .int (nI x9.1)), (2, .int z_3), (1, .int z_1), (0, .ref h0)]) (μ := fun x9 => 200 - x9.1) (J := fun x9 ws9 => ws9 = (mw h0 ad cs (upd (upd (upd (upd (upd (upd (upd iv 14 (nI (n14 - 1))) 21 (nI k21_20)) 22 p22_21) 25 p25_22) 29 p29_23) 30 p30_24) 31 p31_25) (uF (uF (uF (uF (uF (uF (uF fv 15 f15_37) 16 f16_27) 17 f17_28) 19 x9.2) 28 f28_30) 32 f32_7) 33 f33_13) gv) ∧ (x9.1 ≤ 200) ∧ (∀ j9 : Nat, j9 < 200 * (n14 - 1) → x9.2 j9 = fv 19 j9) ∧ (∀ j9 : Nat, j9 < x9.1 → x9.2 (200 * (n14 - 1) + j9) = fv 19 (200 * (n14 - 1) + j9))) (fun x9 ws9 H locs ls hj hP hD hS hl ih_41 => ?_) (0, f19_29) (mw h0 ad cs (upd (upd (upd (upd (upd (upd (upd iv 14 (nI (n14 - 1))) 21 (nI k21_20)) 22 p22_21) 25 p25_22) 29 p29_23) 30 p30_24) 31 p31_25) (uF (uF (uF (uF (uF (uF (uF fv 15 f15_37) 16 f16_27) 17 f17_28) 19 f19_29) 28 f28_30) 32 f32_7) 33 f33_13) gv) _ _ ls ⟨rfl, (show 0 ≤ 200 from by omega), (show ∀ j9 : Nat, j9 < 200 * (n14 - 1) → f19_29 j9 = fv 19 j9 from q_32), (show ∀ j9 : Nat, j9 < 0 → f19_29 (200 * (n14 - 1) + j9) = fv 19 (200 * (n14 - 1) + j9) from fun j9 h9 => absurd h9 (by omega))⟩ hP hD hS (lv_sub hl [0, 1, 2, 3] rfl)
        obtain ⟨i_42, f19_43⟩ := x9
        replace hj : ws9 = (mw h0 ad cs (upd (upd (upd (upd (upd (upd (upd iv 14 (nI (n14 - 1))) 21 (nI k21_20)) 22 p22_21) 25 p25_22) 29 p29_23) 30 p30_24) 31 p31_25) (uF (uF (uF (uF (uF (uF (uF fv 15 f15_37) 16 f16_27) 17 f17_28) 19 f19_43) 28 f28_30) 32 f32_7) 33 f33_13) gv) ∧ (i_42 ≤ 200) ∧ (∀ j9 : Nat, j9 < 200 * (n14 - 1) → f19_43 j9 = fv 19 j9) ∧ (∀ j9 : Nat, j9 < i_42 → f19_43 (200 * (n14 - 1) + j9) = fv 19 (200 * (n14 - 1) + j9)) := hj
        obtain ⟨rfl, hi_44, hlo_45, hhi_46⟩ := hj
        have hl : lv_has ls 4 [(3, .int (nI i_42)), (2, .int z_3), (1, .int z_1), (0, .ref h0)] := hl
        refine lv_iload_n hx hb dX9_full_140 rfl (lv_at hl 0 rfl) ?_
        refine lv_sipush (v := 200) hx hb dX9_full_141 (by decide) ?_
        refine lv_icmp_ge (tgt := 174) hx hb dX9_full_144 (by decide) (fun c_47 => ?_) (fun c_47 => ?_)
        · have d_48 := n_le (a := 200) (b := i_42) (by omega) (by omega) c_47
          refine lv_aload_n hx hb dX9_full_174 rfl (lv_at hl 3 rfl) ?_
          refine va_get (D := D) (ci := 9) (v := .ref (ad 16)) (C := RX9) (T := TX9) (N := 44) hx hb hts hin9 hown hK hP 0 rfl rfl 16 (by decide) (hts (.fieldLink RX9 59 "HoneyHouseModel" "nameSize" "[I") (List.mem_of_getElem? (i := 2) rfl)) (fun _ h9 => h9) rfl dX9_full_175 ?_
          refine lv_aload_n hx hb dX9_full_178 rfl (lv_at hl 3 rfl) ?_
          refine va_get (D := D) (ci := 9) (v := .int (nI (n14 - 1))) (C := RX9) (T := TX9) (N := 44) hx hb hts hin9 hown hK hP 0 rfl rfl 14 (by decide) (hts (.fieldLink RX9 53 "HoneyHouseModel" "rules" "I") (List.mem_of_getElem? (i := 1) rfl)) (fun _ h9 => h9) rfl dX9_full_179 ?_
          refine lv_iload_n hx hb dX9_full_182 rfl (lv_at hl 2 rfl) ?_
          refine va_iast (f := f16_27) (n := 16) hx hb hK hP hD hS 12 11 rfl rfl (vp_in_nI (n := n14 - 1) (by omega) (by omega)) dX9_full_183 (fun H locs hP hD hS => ?_)
          have hP : va_P D vwCl (mw h0 ad cs (upd (upd (upd (upd (upd (upd (upd iv 14 (nI (n14 - 1))) 21 (nI k21_20)) 22 p22_21) 25 p25_22) 29 p29_23) 30 p30_24) 31 p31_25) (uF (uF (uF (uF (uF (uF (uF fv 15 f15_37) 16 (upd f16_27 (nI (n14 - 1)).toNatClampNeg z_1)) 17 f17_28) 19 f19_43) 28 f28_30) 32 f32_7) 33 f33_13) gv) H := hP
          have hD : va_D A (mw h0 ad cs (upd (upd (upd (upd (upd (upd (upd iv 14 (nI (n14 - 1))) 21 (nI k21_20)) 22 p22_21) 25 p25_22) 29 p29_23) 30 p30_24) 31 p31_25) (uF (uF (uF (uF (uF (uF (uF fv 15 f15_37) 16 (upd f16_27 (nI (n14 - 1)).toNatClampNeg z_1)) 17 f17_28) 19 f19_43) 28 f28_30) 32 f32_7) 33 f33_13) gv) := hD
          obtain ⟨f_49, hf_50⟩ : ∃ g9, g9 = upd f16_27 (nI (n14 - 1)).toNatClampNeg z_1 := ⟨_, rfl⟩
          rw [← hf_50] at hP hD
          rw [nI_clamp (n := n14 - 1) (by omega)] at hf_50
          refine lv_aload_n hx hb dX9_full_184 rfl (lv_at hl 3 rfl) ?_
          refine va_get (D := D) (ci := 9) (v := .ref (ad 17)) (C := RX9) (T := TX9) (N := 44) hx hb hts hin9 hown hK hP 0 rfl rfl 17 (by decide) (hts (.fieldLink RX9 62 "HoneyHouseModel" "from" "[I") (List.mem_of_getElem? (i := 3) rfl)) (fun _ h9 => h9) rfl dX9_full_185 ?_
          refine lv_aload_n hx hb dX9_full_188 rfl (lv_at hl 3 rfl) ?_
          refine va_get (D := D) (ci := 9) (v := .int (nI (n14 - 1))) (C := RX9) (T := TX9) (N := 44) hx hb hts hin9 hown hK hP 0 rfl rfl 14 (by decide) (hts (.fieldLink RX9 53 "HoneyHouseModel" "rules" "I") (List.mem_of_getElem? (i := 1) rfl)) (fun _ h9 => h9) rfl dX9_full_189 ?_
          refine lv_iload_n hx hb dX9_full_192 rfl (lv_at hl 1 rfl) ?_
          refine va_iast (f := f17_28) (n := 16) hx hb hK hP hD hS 13 12 rfl rfl (vp_in_nI (n := n14 - 1) (by omega) (by omega)) dX9_full_193 (fun H locs hP hD hS => ?_)
          have hP : va_P D vwCl (mw h0 ad cs (upd (upd (upd (upd (upd (upd (upd iv 14 (nI (n14 - 1))) 21 (nI k21_20)) 22 p22_21) 25 p25_22) 29 p29_23) 30 p30_24) 31 p31_25) (uF (uF (uF (uF (uF (uF (uF fv 15 f15_37) 16 f_49) 17 (upd f17_28 (nI (n14 - 1)).toNatClampNeg z_3)) 19 f19_43) 28 f28_30) 32 f32_7) 33 f33_13) gv) H := hP
          have hD : va_D A (mw h0 ad cs (upd (upd (upd (upd (upd (upd (upd iv 14 (nI (n14 - 1))) 21 (nI k21_20)) 22 p22_21) 25 p25_22) 29 p29_23) 30 p30_24) 31 p31_25) (uF (uF (uF (uF (uF (uF (uF fv 15 f15_37) 16 f_49) 17 (upd f17_28 (nI (n14 - 1)).toNatClampNeg z_3)) 19 f19_43) 28 f28_30) 32 f32_7) 33 f33_13) gv) := hD
          obtain ⟨f_51, hf_52⟩ : ∃ g9, g9 = upd f17_28 (nI (n14 - 1)).toNatClampNeg z_3 := ⟨_, rfl⟩
          rw [← hf_52] at hP hD
          rw [nI_clamp (n := n14 - 1) (by omega)] at hf_52
          refine lv_aload_n hx hb dX9_full_194 rfl (lv_at hl 3 rfl) ?_
          refine lv_dup hx hb dX9_full_195 rfl ?_
          refine va_get (D := D) (ci := 9) (v := .int (nI (n14 - 1))) (C := RX9) (T := TX9) (N := 44) hx hb hts hin9 hown hK hP 0 rfl rfl 14 (by decide) (hts (.fieldLink RX9 53 "HoneyHouseModel" "rules" "I") (List.mem_of_getElem? (i := 1) rfl)) (fun _ h9 => h9) rfl dX9_full_196 ?_
          refine lv_iconst (v := 1) hx hb dX9_full_199 (by decide) ?_
          refine lv_iadd hx hb dX9_full_200 ?_
          refine tp_i (y := nI ((n14 - 1) + 1)) (nI_add (n14 - 1) 1) ?_
          refine va_put (D := D) (ci := 9) (v := .int (nI ((n14 - 1) + 1))) (ty := .int) (C := RX9) (T := TX9) (N := 44) hx hb hts hin9 tyX9 tyX9_ok nmX9 hown hK hP hD hS 0 rfl rfl 14 (by decide) (hts (.fieldLink RX9 53 "HoneyHouseModel" "rules" "I") (List.mem_of_getElem? (i := 1) rfl)) (fun _ h9 => h9) rfl (tyX9_ok 14 (by decide)) rfl rfl (Nat.le_of_ble_eq_true rfl) dX9_full_201 (fun H locs hP hD hS => ?_)
          have hP : va_P D vwCl (mw h0 ad cs (upd (upd (upd (upd (upd (upd (upd iv 14 (nI ((n14 - 1) + 1))) 21 (nI k21_20)) 22 p22_21) 25 p25_22) 29 p29_23) 30 p30_24) 31 p31_25) (uF (uF (uF (uF (uF (uF (uF fv 15 f15_37) 16 f_49) 17 f_51) 19 f19_43) 28 f28_30) 32 f32_7) 33 f33_13) gv) H := hP
          have hD : va_D A (mw h0 ad cs (upd (upd (upd (upd (upd (upd (upd iv 14 (nI ((n14 - 1) + 1))) 21 (nI k21_20)) 22 p22_21) 25 p25_22) 29 p29_23) 30 p30_24) 31 p31_25) (uF (uF (uF (uF (uF (uF (uF fv 15 f15_37) 16 f_49) 17 f_51) 19 f19_43) 28 f28_30) 32 f32_7) 33 f33_13) gv) := hD
          refine lv_aload_n hx hb dX9_full_204 rfl (lv_at hl 3 rfl) ?_
          refine va_get (D := D) (ci := 9) (v := .int (nI k21_20)) (C := RX9) (T := TX9) (N := 44) hx hb hts hin9 hown hK hP 0 rfl rfl 21 (by decide) (hts (.fieldLink RX9 74 "HoneyHouseModel" "faultKind" "I") (List.mem_of_getElem? (i := 8) rfl)) (fun _ h9 => h9) rfl dX9_full_205 ?_
          refine lv_if_le (tgt := 215) hx hb dX9_full_208 (by decide) (fun c_53 => ?_) (fun c_53 => ?_)
          · have d_54 := n_le (a := k21_20) (b := 0) (by omega) (by omega) c_53
            refine lv_bipush (v := (-2)) hx hb dX9_full_215 (by decide) ?_
            have hP : va_P D vwCl (mw h0 ad cs (upd (upd (upd (upd (upd (upd (upd iv 14 (nI ((n14 - 1) + 1))) 21 (nI k21_20)) 22 p22_21) 25 p25_22) 29 p29_23) 30 p30_24) 31 p31_25) (uF (uF (uF (uF (uF (uF (uF fv 15 f15_37) 16 f_49) 17 f_51) 19 f19_43) 28 f28_30) 32 f32_7) 33 f33_13) gv) H := hP
            have hD : va_D A (mw h0 ad cs (upd (upd (upd (upd (upd (upd (upd iv 14 (nI ((n14 - 1) + 1))) 21 (nI k21_20)) 22 p22_21) 25 p25_22) 29 p29_23) 30 p30_24) 31 p31_25) (uF (uF (uF (uF (uF (uF (uF fv 15 f15_37) 16 f_49) 17 f_51) 19 f19_43) 28 f28_30) 32 f32_7) 33 f33_13) gv) := hD
            exact W.iret (v := (-2)) hx hb hr (fun t ht hW => ⟨⟨(-2), (-2), rfl, rfl, (n14 - 1) + 1, k21_20, p22_21, p25_22, p29_23, p30_24, p31_25, f15_37, f_49, f_51, f19_43, f28_30, f32_7, f33_13, by omega, by omega, fun i h9 => (Nat.lt_or_ge i (200 * (n14 - 1))).elim (fun q => hlo_45 i q) (fun q => by rw [show i = 200 * (n14 - 1) + (i - 200 * (n14 - 1)) by omega]; exact hhi_46 _ (by omega)), fun i => (Classical.em (i = n14 - 1)).elim (fun q => by rw [hf_50, q, up_eq]; exact hz_2) (fun q => by rw [hf_50, up_ne q]; exact q_33 i q), by rw [ht]; exact hP, va_K.moved hW.alike hK, hD⟩, hS.F ht⟩) hS.2.2 dX9_full_217
          have d_55 := n_nle (a := k21_20) (b := 0) (by omega) (by omega) c_53
          refine lv_iconst (v := (-1)) hx hb dX9_full_211 (by decide) ?_
          refine lv_goto (tgt := 217) hx hb dX9_full_212 (by decide) ?_
          have hP : va_P D vwCl (mw h0 ad cs (upd (upd (upd (upd (upd (upd (upd iv 14 (nI ((n14 - 1) + 1))) 21 (nI k21_20)) 22 p22_21) 25 p25_22) 29 p29_23) 30 p30_24) 31 p31_25) (uF (uF (uF (uF (uF (uF (uF fv 15 f15_37) 16 f_49) 17 f_51) 19 f19_43) 28 f28_30) 32 f32_7) 33 f33_13) gv) H := hP
          have hD : va_D A (mw h0 ad cs (upd (upd (upd (upd (upd (upd (upd iv 14 (nI ((n14 - 1) + 1))) 21 (nI k21_20)) 22 p22_21) 25 p25_22) 29 p29_23) 30 p30_24) 31 p31_25) (uF (uF (uF (uF (uF (uF (uF fv 15 f15_37) 16 f_49) 17 f_51) 19 f19_43) 28 f28_30) 32 f32_7) 33 f33_13) gv) := hD
          exact W.iret (v := (-1)) hx hb hr (fun t ht hW => ⟨⟨(-1), (-1), rfl, rfl, (n14 - 1) + 1, k21_20, p22_21, p25_22, p29_23, p30_24, p31_25, f15_37, f_49, f_51, f19_43, f28_30, f32_7, f33_13, by omega, by omega, fun i h9 => (Nat.lt_or_ge i (200 * (n14 - 1))).elim (fun q => hlo_45 i q) (fun q => by rw [show i = 200 * (n14 - 1) + (i - 200 * (n14 - 1)) by omega]; exact hhi_46 _ (by omega)), fun i => (Classical.em (i = n14 - 1)).elim (fun q => by rw [hf_50, q, up_eq]; exact hz_2) (fun q => by rw [hf_50, up_ne q]; exact q_33 i q), by rw [ht]; exact hP, va_K.moved hW.alike hK, hD⟩, hS.F ht⟩) hS.2.2 dX9_full_217
        have d_56 := n_nle (a := 200) (b := i_42) (by omega) (by omega) c_47
        refine lv_aload_n hx hb dX9_full_147 rfl (lv_at hl 3 rfl) ?_
        refine va_get (D := D) (ci := 9) (v := .ref (ad 19)) (C := RX9) (T := TX9) (N := 44) hx hb hts hin9 hown hK hP 0 rfl rfl 19 (by decide) (hts (.fieldLink RX9 68 "HoneyHouseModel" "code" "[I") (List.mem_of_getElem? (i := 7) rfl)) (fun _ h9 => h9) rfl dX9_full_148 ?_
        refine lv_sipush (v := 200) hx hb dX9_full_151 (by decide) ?_
        refine lv_aload_n hx hb dX9_full_154 rfl (lv_at hl 3 rfl) ?_
        refine va_get (D := D) (ci := 9) (v := .int (nI (n14 - 1))) (C := RX9) (T := TX9) (N := 44) hx hb hts hin9 hown hK hP 0 rfl rfl 14 (by decide) (hts (.fieldLink RX9 53 "HoneyHouseModel" "rules" "I") (List.mem_of_getElem? (i := 1) rfl)) (fun _ h9 => h9) rfl dX9_full_155 ?_
        refine lv_imul hx hb dX9_full_158 ?_
        refine tp_i (y := nI (200 * (n14 - 1))) (pk_mul 200 (n14 - 1)) ?_
        refine lv_iload_n hx hb dX9_full_159 rfl (lv_at hl 0 rfl) ?_
        refine lv_iadd hx hb dX9_full_160 ?_
        refine tp_i (y := nI ((200 * (n14 - 1)) + i_42)) (nI_add (200 * (n14 - 1)) i_42) ?_
        refine lv_aload_n hx hb dX9_full_161 rfl (lv_at hl 3 rfl) ?_
        refine va_get (D := D) (ci := 9) (v := .ref (ad 33)) (C := RX9) (T := TX9) (N := 44) hx hb hts hin9 hown hK hP 0 rfl rfl 33 (by decide) (hts (.fieldLink RX9 111 "HoneyHouseModel" "keptCode" "[I") (List.mem_of_getElem? (i := 6) rfl)) (fun _ h9 => h9) rfl dX9_full_162 ?_
        refine lv_iload_n hx hb dX9_full_165 rfl (lv_at hl 0 rfl) ?_
        refine va_iald (f := f33_13) (n := 200) hx hb hK hP 21 20 rfl rfl (vp_in_nI (n := i_42) (by omega) (by omega)) dX9_full_166 ?_
        refine lv_topi (fun z_57 hz_58 => ?_)
        rw [nI_clamp (n := i_42) (by omega)] at hz_58
        refine va_iast (f := f19_43) (n := 3200) hx hb hK hP hD hS 15 14 rfl rfl (vp_in_nI (n := (200 * (n14 - 1)) + i_42) (by omega) (by omega)) dX9_full_167 (fun H locs hP hD hS => ?_)
        have hP : va_P D vwCl (mw h0 ad cs (upd (upd (upd (upd (upd (upd (upd iv 14 (nI (n14 - 1))) 21 (nI k21_20)) 22 p22_21) 25 p25_22) 29 p29_23) 30 p30_24) 31 p31_25) (uF (uF (uF (uF (uF (uF (uF fv 15 f15_37) 16 f16_27) 17 f17_28) 19 (upd f19_43 (nI ((200 * (n14 - 1)) + i_42)).toNatClampNeg z_57)) 28 f28_30) 32 f32_7) 33 f33_13) gv) H := hP
        have hD : va_D A (mw h0 ad cs (upd (upd (upd (upd (upd (upd (upd iv 14 (nI (n14 - 1))) 21 (nI k21_20)) 22 p22_21) 25 p25_22) 29 p29_23) 30 p30_24) 31 p31_25) (uF (uF (uF (uF (uF (uF (uF fv 15 f15_37) 16 f16_27) 17 f17_28) 19 (upd f19_43 (nI ((200 * (n14 - 1)) + i_42)).toNatClampNeg z_57)) 28 f28_30) 32 f32_7) 33 f33_13) gv) := hD
        obtain ⟨f_59, hf_60⟩ : ∃ g9, g9 = upd f19_43 (nI ((200 * (n14 - 1)) + i_42)).toNatClampNeg z_57 := ⟨_, rfl⟩
        rw [← hf_60] at hP hD
        rw [nI_clamp (n := (200 * (n14 - 1)) + i_42) (by omega)] at hf_60
        refine lv_iinc (v := nI (i_42 + 1)) (lv' := [(3, .int (nI (i_42 + 1))), (2, .int z_3), (1, .int z_1), (0, .ref h0)]) hx hb dX9_full_168 hl (k := 0) rfl (nI_add i_42 1) (by decide) rfl (fun ls hl => ?_)
        refine lv_goto (tgt := 140) hx hb dX9_full_171 (by decide) ?_
        exact ih_41 (i_42 + 1, f_59) (mw h0 ad cs (upd (upd (upd (upd (upd (upd (upd iv 14 (nI (n14 - 1))) 21 (nI k21_20)) 22 p22_21) 25 p25_22) 29 p29_23) 30 p30_24) 31 p31_25) (uF (uF (uF (uF (uF (uF (uF fv 15 f15_37) 16 f16_27) 17 f17_28) 19 f_59) 28 f28_30) 32 f32_7) 33 f33_13) gv) _ _ ls (by show 200 - (i_42 + 1) < 200 - i_42; omega) ⟨rfl, (show (i_42 + 1) ≤ 200 from by omega), (show ∀ j9 : Nat, j9 < 200 * (n14 - 1) → f_59 j9 = fv 19 j9 from fun j9 h9 => by rw [hf_60, up_ne (by omega)]; exact hlo_45 j9 h9), (show ∀ j9 : Nat, j9 < (i_42 + 1) → f_59 (200 * (n14 - 1) + j9) = fv 19 (200 * (n14 - 1) + j9) from fun j9 h9 => (Nat.lt_or_ge j9 i_42).elim (fun q => by rw [hf_60, up_ne (by omega)]; exact hhi_46 j9 q) (fun q => by rw [hf_60, show j9 = i_42 by omega, up_eq, hz_58]; exact hk_15 i_42 (by omega)))⟩ hP hD hS (lv_sub hl [0, 1, 2, 3] rfl)
      have d_61 := n_nle (a := 12) (b := i_36) (by omega) (by omega) c_39
      refine lv_aload_n hx hb dX9_full_112 rfl (lv_at hl 3 rfl) ?_
      refine va_get (D := D) (ci := 9) (v := .ref (ad 15)) (C := RX9) (T := TX9) (N := 44) hx hb hts hin9 hown hK hP 0 rfl rfl 15 (by decide) (hts (.fieldLink RX9 56 "HoneyHouseModel" "names" "[I") (List.mem_of_getElem? (i := 5) rfl)) (fun _ h9 => h9) rfl dX9_full_113 ?_
      refine lv_bipush (v := 12) hx hb dX9_full_116 (by decide) ?_
      refine lv_aload_n hx hb dX9_full_118 rfl (lv_at hl 3 rfl) ?_
      refine va_get (D := D) (ci := 9) (v := .int (nI (n14 - 1))) (C := RX9) (T := TX9) (N := 44) hx hb hts hin9 hown hK hP 0 rfl rfl 14 (by decide) (hts (.fieldLink RX9 53 "HoneyHouseModel" "rules" "I") (List.mem_of_getElem? (i := 1) rfl)) (fun _ h9 => h9) rfl dX9_full_119 ?_
      refine lv_imul hx hb dX9_full_122 ?_
      refine tp_i (y := nI (12 * (n14 - 1))) (pk_mul 12 (n14 - 1)) ?_
      refine lv_iload_n hx hb dX9_full_123 rfl (lv_at hl 0 rfl) ?_
      refine lv_iadd hx hb dX9_full_124 ?_
      refine tp_i (y := nI ((12 * (n14 - 1)) + i_36)) (nI_add (12 * (n14 - 1)) i_36) ?_
      refine lv_aload_n hx hb dX9_full_125 rfl (lv_at hl 3 rfl) ?_
      refine va_get (D := D) (ci := 9) (v := .ref (ad 32)) (C := RX9) (T := TX9) (N := 44) hx hb hts hin9 hown hK hP 0 rfl rfl 32 (by decide) (hts (.fieldLink RX9 108 "HoneyHouseModel" "keptName" "[I") (List.mem_of_getElem? (i := 4) rfl)) (fun _ h9 => h9) rfl dX9_full_126 ?_
      refine lv_iload_n hx hb dX9_full_129 rfl (lv_at hl 0 rfl) ?_
      refine va_iald (f := f32_7) (n := 12) hx hb hK hP 20 19 rfl rfl (vp_in_nI (n := i_36) (by omega) (by omega)) dX9_full_130 ?_
      refine lv_topi (fun z_62 hz_63 => ?_)
      refine va_iast (f := f15_37) (n := 192) hx hb hK hP hD hS 11 10 rfl rfl (vp_in_nI (n := (12 * (n14 - 1)) + i_36) (by omega) (by omega)) dX9_full_131 (fun H locs hP hD hS => ?_)
      have hP : va_P D vwCl (mw h0 ad cs (upd (upd (upd (upd (upd (upd (upd iv 14 (nI (n14 - 1))) 21 (nI k21_20)) 22 p22_21) 25 p25_22) 29 p29_23) 30 p30_24) 31 p31_25) (uF (uF (uF (uF (uF (uF (uF fv 15 (upd f15_37 (nI ((12 * (n14 - 1)) + i_36)).toNatClampNeg z_62)) 16 f16_27) 17 f17_28) 19 f19_29) 28 f28_30) 32 f32_7) 33 f33_13) gv) H := hP
      have hD : va_D A (mw h0 ad cs (upd (upd (upd (upd (upd (upd (upd iv 14 (nI (n14 - 1))) 21 (nI k21_20)) 22 p22_21) 25 p25_22) 29 p29_23) 30 p30_24) 31 p31_25) (uF (uF (uF (uF (uF (uF (uF fv 15 (upd f15_37 (nI ((12 * (n14 - 1)) + i_36)).toNatClampNeg z_62)) 16 f16_27) 17 f17_28) 19 f19_29) 28 f28_30) 32 f32_7) 33 f33_13) gv) := hD
      obtain ⟨f_64, hf_65⟩ : ∃ g9, g9 = upd f15_37 (nI ((12 * (n14 - 1)) + i_36)).toNatClampNeg z_62 := ⟨_, rfl⟩
      rw [← hf_65] at hP hD
      rw [nI_clamp (n := (12 * (n14 - 1)) + i_36) (by omega)] at hf_65
      refine lv_iinc (v := nI (i_36 + 1)) (lv' := [(3, .int (nI (i_36 + 1))), (2, .int z_3), (1, .int z_1), (0, .ref h0)]) hx hb dX9_full_132 hl (k := 0) rfl (nI_add i_36 1) (by decide) rfl (fun ls hl => ?_)
      refine lv_goto (tgt := 106) hx hb dX9_full_135 (by decide) ?_
      exact ih_35 (i_36 + 1, f_64) (mw h0 ad cs (upd (upd (upd (upd (upd (upd (upd iv 14 (nI (n14 - 1))) 21 (nI k21_20)) 22 p22_21) 25 p25_22) 29 p29_23) 30 p30_24) 31 p31_25) (uF (uF (uF (uF (uF (uF (uF fv 15 f_64) 16 f16_27) 17 f17_28) 19 f19_29) 28 f28_30) 32 f32_7) 33 f33_13) gv) _ _ ls (by show 12 - (i_36 + 1) < 12 - i_36; omega) ⟨rfl, (show (i_36 + 1) ≤ 12 from by omega)⟩ hP hD hS (lv_sub hl [0, 1, 2, 3] rfl)
    have d_66 := n_nle (a := 200) (b := i_12) (by omega) (by omega) c_16
    refine lv_aload_n hx hb dX9_full_73 rfl (lv_at hl 3 rfl) ?_
    refine va_get (D := D) (ci := 9) (v := .ref (ad 33)) (C := RX9) (T := TX9) (N := 44) hx hb hts hin9 hown hK hP 0 rfl rfl 33 (by decide) (hts (.fieldLink RX9 111 "HoneyHouseModel" "keptCode" "[I") (List.mem_of_getElem? (i := 6) rfl)) (fun _ h9 => h9) rfl dX9_full_74 ?_
    refine lv_iload_n hx hb dX9_full_77 rfl (lv_at hl 0 rfl) ?_
    refine lv_aload_n hx hb dX9_full_78 rfl (lv_at hl 3 rfl) ?_
    refine va_get (D := D) (ci := 9) (v := .ref (ad 19)) (C := RX9) (T := TX9) (N := 44) hx hb hts hin9 hown hK hP 0 rfl rfl 19 (by decide) (hts (.fieldLink RX9 68 "HoneyHouseModel" "code" "[I") (List.mem_of_getElem? (i := 7) rfl)) (fun _ h9 => h9) rfl dX9_full_79 ?_
    refine lv_sipush (v := 200) hx hb dX9_full_82 (by decide) ?_
    refine lv_aload_n hx hb dX9_full_85 rfl (lv_at hl 3 rfl) ?_
    refine va_get (D := D) (ci := 9) (v := .int (nI (n14 - 1))) (C := RX9) (T := TX9) (N := 44) hx hb hts hin9 hown hK hP 0 rfl rfl 14 (by decide) (hts (.fieldLink RX9 53 "HoneyHouseModel" "rules" "I") (List.mem_of_getElem? (i := 1) rfl)) (fun _ h9 => h9) rfl dX9_full_86 ?_
    refine lv_imul hx hb dX9_full_89 ?_
    refine tp_i (y := nI (200 * (n14 - 1))) (pk_mul 200 (n14 - 1)) ?_
    refine lv_iload_n hx hb dX9_full_90 rfl (lv_at hl 0 rfl) ?_
    refine lv_iadd hx hb dX9_full_91 ?_
    refine tp_i (y := nI ((200 * (n14 - 1)) + i_12)) (nI_add (200 * (n14 - 1)) i_12) ?_
    refine va_iald (f := fv 19) (n := 3200) hx hb hK hP 15 14 rfl rfl (vp_in_nI (n := (200 * (n14 - 1)) + i_12) (by omega) (by omega)) dX9_full_92 ?_
    refine lv_topi (fun z_67 hz_68 => ?_)
    rw [nI_clamp (n := (200 * (n14 - 1)) + i_12) (by omega)] at hz_68
    refine va_iast (f := f33_13) (n := 200) hx hb hK hP hD hS 21 20 rfl rfl (vp_in_nI (n := i_12) (by omega) (by omega)) dX9_full_93 (fun H locs hP hD hS => ?_)
    have hP : va_P D vwCl (mw h0 ad cs (upd iv 14 (nI (n14 - 1))) (uF (uF fv 32 f32_7) 33 (upd f33_13 (nI i_12).toNatClampNeg z_67)) gv) H := hP
    have hD : va_D A (mw h0 ad cs (upd iv 14 (nI (n14 - 1))) (uF (uF fv 32 f32_7) 33 (upd f33_13 (nI i_12).toNatClampNeg z_67)) gv) := hD
    obtain ⟨f_69, hf_70⟩ : ∃ g9, g9 = upd f33_13 (nI i_12).toNatClampNeg z_67 := ⟨_, rfl⟩
    rw [← hf_70] at hP hD
    rw [nI_clamp (n := i_12) (by omega)] at hf_70
    refine lv_iinc (v := nI (i_12 + 1)) (lv' := [(3, .int (nI (i_12 + 1))), (2, .int z_3), (1, .int z_1), (0, .ref h0)]) hx hb dX9_full_94 hl (k := 0) rfl (nI_add i_12 1) (by decide) rfl (fun ls hl => ?_)
    refine lv_goto (tgt := 66) hx hb dX9_full_97 (by decide) ?_
    exact ih_11 (i_12 + 1, f_69) (mw h0 ad cs (upd iv 14 (nI (n14 - 1))) (uF (uF fv 32 f32_7) 33 f_69) gv) _ _ ls (by show 200 - (i_12 + 1) < 200 - i_12; omega) ⟨rfl, (show (i_12 + 1) ≤ 200 from by omega), (show ∀ j9 : Nat, j9 < (i_12 + 1) → f_69 j9 = fv 19 (200 * (n14 - 1) + j9) from fun j9 h9 => (Nat.lt_or_ge j9 i_12).elim (fun q => by rw [hf_70, up_ne (by omega)]; exact hk_15 j9 q) (fun q => by rw [hf_70, show j9 = i_12 by omega, up_eq]; exact hz_68))⟩ hP hD hS (lv_sub hl [0, 1, 2, 3] rfl)
  have d_71 := n_nle (a := 12) (b := i_6) (by omega) (by omega) c_9
  refine lv_aload_n hx hb dX9_full_38 rfl (lv_at hl 3 rfl) ?_
  refine va_get (D := D) (ci := 9) (v := .ref (ad 32)) (C := RX9) (T := TX9) (N := 44) hx hb hts hin9 hown hK hP 0 rfl rfl 32 (by decide) (hts (.fieldLink RX9 108 "HoneyHouseModel" "keptName" "[I") (List.mem_of_getElem? (i := 4) rfl)) (fun _ h9 => h9) rfl dX9_full_39 ?_
  refine lv_iload_n hx hb dX9_full_42 rfl (lv_at hl 0 rfl) ?_
  refine lv_aload_n hx hb dX9_full_43 rfl (lv_at hl 3 rfl) ?_
  refine va_get (D := D) (ci := 9) (v := .ref (ad 15)) (C := RX9) (T := TX9) (N := 44) hx hb hts hin9 hown hK hP 0 rfl rfl 15 (by decide) (hts (.fieldLink RX9 56 "HoneyHouseModel" "names" "[I") (List.mem_of_getElem? (i := 5) rfl)) (fun _ h9 => h9) rfl dX9_full_44 ?_
  refine lv_bipush (v := 12) hx hb dX9_full_47 (by decide) ?_
  refine lv_aload_n hx hb dX9_full_49 rfl (lv_at hl 3 rfl) ?_
  refine va_get (D := D) (ci := 9) (v := .int (nI (n14 - 1))) (C := RX9) (T := TX9) (N := 44) hx hb hts hin9 hown hK hP 0 rfl rfl 14 (by decide) (hts (.fieldLink RX9 53 "HoneyHouseModel" "rules" "I") (List.mem_of_getElem? (i := 1) rfl)) (fun _ h9 => h9) rfl dX9_full_50 ?_
  refine lv_imul hx hb dX9_full_53 ?_
  refine tp_i (y := nI (12 * (n14 - 1))) (pk_mul 12 (n14 - 1)) ?_
  refine lv_iload_n hx hb dX9_full_54 rfl (lv_at hl 0 rfl) ?_
  refine lv_iadd hx hb dX9_full_55 ?_
  refine tp_i (y := nI ((12 * (n14 - 1)) + i_6)) (nI_add (12 * (n14 - 1)) i_6) ?_
  refine va_iald (f := fv 15) (n := 192) hx hb hK hP 11 10 rfl rfl (vp_in_nI (n := (12 * (n14 - 1)) + i_6) (by omega) (by omega)) dX9_full_56 ?_
  refine lv_topi (fun z_72 hz_73 => ?_)
  refine va_iast (f := f32_7) (n := 12) hx hb hK hP hD hS 20 19 rfl rfl (vp_in_nI (n := i_6) (by omega) (by omega)) dX9_full_57 (fun H locs hP hD hS => ?_)
  have hP : va_P D vwCl (mw h0 ad cs (upd iv 14 (nI (n14 - 1))) (uF fv 32 (upd f32_7 (nI i_6).toNatClampNeg z_72)) gv) H := hP
  have hD : va_D A (mw h0 ad cs (upd iv 14 (nI (n14 - 1))) (uF fv 32 (upd f32_7 (nI i_6).toNatClampNeg z_72)) gv) := hD
  obtain ⟨f_74, hf_75⟩ : ∃ g9, g9 = upd f32_7 (nI i_6).toNatClampNeg z_72 := ⟨_, rfl⟩
  rw [← hf_75] at hP hD
  rw [nI_clamp (n := i_6) (by omega)] at hf_75
  refine lv_iinc (v := nI (i_6 + 1)) (lv' := [(3, .int (nI (i_6 + 1))), (2, .int z_3), (1, .int z_1), (0, .ref h0)]) hx hb dX9_full_58 hl (k := 0) rfl (nI_add i_6 1) (by decide) rfl (fun ls hl => ?_)
  refine lv_goto (tgt := 32) hx hb dX9_full_61 (by decide) ?_
  exact ih_5 (i_6 + 1, f_74) (mw h0 ad cs (upd iv 14 (nI (n14 - 1))) (uF fv 32 f_74) gv) _ _ ls (by show 12 - (i_6 + 1) < 12 - i_6; omega) ⟨rfl, (show (i_6 + 1) ≤ 12 from by omega)⟩ hP hD hS (lv_sub hl [0, 1, 2, 3] rfl)
set_option maxHeartbeats 4000000 in
set_option maxRecDepth 100000 in
theorem m_rule (l : Launch) (D : va_G) (h0 : Nat) (ad : Nat → Nat) (cs : Nat → ClassId) (iv : Nat → Int32) (fv : Nat → Nat → Int32) (gv : Nat → Int64) (n1 n14 : Nat)  (sz : Nat) (h1 : iv 1 = nI n1) (h14 : iv 14 = nI n14) (b1 : n1 ≤ 400) (b14 : n14 ≤ 16) (hN : ∀ i : Nat, i < n14 → ∃ k : Nat, k ≤ 12 ∧ fv 16 i = nI k) (hC : ∀ i : Nat, i < n14 → ∃ k n : Nat, k ≤ 200 ∧ fv 20 i = nI k ∧ wfs (fv 19) (200 * i) k n) : Met l yX9_rule wsX9_rule ({ frames := 7, cells := 0, slots := 0, locals := 158 }) (va_Pc [.ref h0] (fun U => U.heap.size = sz ∧ va_P D vwCl (mw h0 ad cs iv fv gv) U.heap ∧ va_K D vwCl (mT cs) U ∧ va_D (fun _ => True) (mw h0 ad cs iv fv gv))) (va_Qi (fun (r u : Int32) => r = u) (fun (r : Int32) (t : State) => ∃ (k14 : Nat) (p21 : Int32) (p22 : Int32) (p25 : Int32) (p26 : Int32) (p29 : Int32) (p30 : Int32) (p31 : Int32) (f15 : Nat → Int32) (f16 : Nat → Int32) (f17 : Nat → Int32) (f18 : Nat → Int32) (f19 : Nat → Int32) (f20 : Nat → Int32) (f28 : Nat → Int32) (f32 : Nat → Int32) (f33 : Nat → Int32), (k14 ≤ 16) ∧ (∀ i : Nat, i < k14 → ∃ k : Nat, k ≤ 12 ∧ f16 i = nI k) ∧ (∀ i : Nat, i < k14 → ∃ k n : Nat, k ≤ 200 ∧ f20 i = nI k ∧ wfs f19 (200 * i) k n) ∧ va_P D vwCl (mw h0 ad cs (upd (upd (upd (upd (upd (upd (upd (upd (upd iv 1 0) 14 (nI k14)) 21 p21) 22 p22) 25 p25) 26 p26) 29 p29) 30 p30) 31 p31) (uF (uF (uF (uF (uF (uF (uF (uF (uF fv 15 f15) 16 f16) 17 f17) 18 f18) 19 f19) 20 f20) 28 f28) 32 f32) 33 f33) gv) t.heap ∧ va_K D vwCl (mT cs) t ∧ va_D (va_A (mw h0 ad cs iv fv gv) sz) (mw h0 ad cs (upd (upd (upd (upd (upd (upd (upd (upd (upd iv 1 0) 14 (nI k14)) 21 p21) 22 p22) 25 p25) 26 p26) 29 p29) 30 p30) 31 p31) (uF (uF (uF (uF (uF (uF (uF (uF (uF fv 15 f15) 16 f16) 17 f17) 18 f18) 19 f19) 20 f20) 28 f28) 32 f32) 33 f33) gv)) (va_A (mw h0 ad cs iv fv gv) sz)) 0 0 (va_A (mw h0 ad cs iv fv gv) sz) := by
  refine Met.ofW (cc := cX9_rule) (maxL := 1) (ret := (some .int)) (by decide) rfl ?_
  intro p e s m args below meth c s₁ B hml hv
  obtain ⟨rfl, hsz, hP, hK, hD0⟩ := hv
  have hx := B.exec
  have hb := B.bytes
  have hr := B.returns
  have hts := atoms_spec (ws := wsX9_rule) B.pre
  have hown : s.vm.findClass RX9 = some m.cls := findClass_of_methodNamed B.named
  have hlocks := B.notSynchronized
  subst hsz
  have hD := hD0.self (sz := s.heap.size)
  generalize hAe : va_A (mw h0 ad cs iv fv gv) s.heap.size = A at hD ⊢
  have hA : ∀ q : Nat, s.heap.size ≤ q → A q := fun q h => by rw [← hAe]; exact Or.inr h
  have hS : va_S A s.heap s.heap [] := va_S.rf
  have hin9 : ∀ w ∈ u_ws RX9 TX9 44, w ∈ wsX9_rule := (fun _ h9 => List.mem_cons_of_mem _ ((List.mem_append_right _ h9)))
  have hl := lv_entry ([.ref h0]) (n := 1) (Nat.le_of_ble_eq_true rfl)
  rw [lg_entry_eq]
  generalize (lg_sl ([.ref h0]) ++ List.replicate (1 - (lg_sl ([.ref h0])).length) Slot.unset).toArray = ls at hl ⊢
  have hl : lv_has ls 1 [(0, .ref h0)] := hl
  refine lv_aload_n hx hb dX9_rule_0 rfl (lv_at hl 0 rfl) ?_
  refine lv_aload_n hx hb dX9_rule_1 rfl (lv_at hl 0 rfl) ?_
  refine va_get (D := D) (ci := 9) (v := .int (iv 1)) (C := RX9) (T := TX9) (N := 44) hx hb hts hin9 hown hK hP 0 rfl rfl 1 (by decide) (hts (.fieldLink RX9 13 "HoneyHouseModel" "taped" "I") (List.mem_of_getElem? (i := 1) rfl)) (fun _ h9 => h9) rfl dX9_rule_2 ?_
  refine tp_i (y := nI n1) (h1) ?_
  refine va_put (D := D) (ci := 9) (v := .int (nI n1)) (ty := .int) (C := RX9) (T := TX9) (N := 44) hx hb hts hin9 tyX9 tyX9_ok nmX9 hown hK hP hD hS 0 rfl rfl 26 (by decide) (hts (.fieldLink RX9 90 "HoneyHouseModel" "size" "I") (List.mem_of_getElem? (i := 2) rfl)) (fun _ h9 => h9) rfl (tyX9_ok 26 (by decide)) rfl rfl (Nat.le_of_ble_eq_true rfl) dX9_rule_5 (fun H locs hP hD hS => ?_)
  have hP : va_P D vwCl (mw h0 ad cs (upd iv 26 (nI n1)) fv gv) H := hP
  have hD : va_D A (mw h0 ad cs (upd iv 26 (nI n1)) fv gv) := hD
  refine lv_aload_n hx hb dX9_rule_8 rfl (lv_at hl 0 rfl) ?_
  refine lv_iconst (v := 0) hx hb dX9_rule_9 (by decide) ?_
  refine va_put (D := D) (ci := 9) (v := .int 0) (ty := .int) (C := RX9) (T := TX9) (N := 44) hx hb hts hin9 tyX9 tyX9_ok nmX9 hown hK hP hD hS 0 rfl rfl 1 (by decide) (hts (.fieldLink RX9 13 "HoneyHouseModel" "taped" "I") (List.mem_of_getElem? (i := 1) rfl)) (fun _ h9 => h9) rfl (tyX9_ok 1 (by decide)) rfl rfl (Nat.le_of_ble_eq_true rfl) dX9_rule_10 (fun H locs hP hD hS => ?_)
  have hP : va_P D vwCl (mw h0 ad cs (upd (upd iv 1 0) 26 (nI n1)) fv gv) H := hP
  have hD : va_D A (mw h0 ad cs (upd (upd iv 1 0) 26 (nI n1)) fv gv) := hD
  refine lv_aload_n hx hb dX9_rule_13 rfl (lv_at hl 0 rfl) ?_
  refine lv_iconst (v := 0) hx hb dX9_rule_14 (by decide) ?_
  refine va_put (D := D) (ci := 9) (v := .int 0) (ty := .int) (C := RX9) (T := TX9) (N := 44) hx hb hts hin9 tyX9 tyX9_ok nmX9 hown hK hP hD hS 0 rfl rfl 21 (by decide) (hts (.fieldLink RX9 74 "HoneyHouseModel" "faultKind" "I") (List.mem_of_getElem? (i := 3) rfl)) (fun _ h9 => h9) rfl (tyX9_ok 21 (by decide)) rfl rfl (Nat.le_of_ble_eq_true rfl) dX9_rule_15 (fun H locs hP hD hS => ?_)
  have hP : va_P D vwCl (mw h0 ad cs (upd (upd (upd iv 1 0) 21 0) 26 (nI n1)) fv gv) H := hP
  have hD : va_D A (mw h0 ad cs (upd (upd (upd iv 1 0) 21 0) 26 (nI n1)) fv gv) := hD
  refine lv_aload_n hx hb dX9_rule_18 rfl (lv_at hl 0 rfl) ?_
  refine lv_iconst (v := (-1)) hx hb dX9_rule_19 (by decide) ?_
  refine va_put (D := D) (ci := 9) (v := .int (-1)) (ty := .int) (C := RX9) (T := TX9) (N := 44) hx hb hts hin9 tyX9 tyX9_ok nmX9 hown hK hP hD hS 0 rfl rfl 22 (by decide) (hts (.fieldLink RX9 77 "HoneyHouseModel" "faultPlace" "I") (List.mem_of_getElem? (i := 4) rfl)) (fun _ h9 => h9) rfl (tyX9_ok 22 (by decide)) rfl rfl (Nat.le_of_ble_eq_true rfl) dX9_rule_20 (fun H locs hP hD hS => ?_)
  have hP : va_P D vwCl (mw h0 ad cs (upd (upd (upd (upd iv 1 0) 21 0) 22 (-1)) 26 (nI n1)) fv gv) H := hP
  have hD : va_D A (mw h0 ad cs (upd (upd (upd (upd iv 1 0) 21 0) 22 (-1)) 26 (nI n1)) fv gv) := hD
  refine lv_aload_n hx hb dX9_rule_23 rfl (lv_at hl 0 rfl) ?_
  refine va_get (D := D) (ci := 9) (v := .int (iv 14)) (C := RX9) (T := TX9) (N := 44) hx hb hts hin9 hown hK hP 0 rfl rfl 14 (by decide) (hts (.fieldLink RX9 53 "HoneyHouseModel" "rules" "I") (List.mem_of_getElem? (i := 5) rfl)) (fun _ h9 => h9) rfl dX9_rule_24 ?_
  refine tp_i (y := nI n14) (h14) ?_
  refine lv_bipush (v := 16) hx hb dX9_rule_27 (by decide) ?_
  refine lv_icmp_ne (tgt := 37) hx hb dX9_rule_29 (by decide) (fun c_1 => ?_) (fun c_1 => ?_)
  · have d_2 := n_ne (a := n14) (b := 16) (by omega) (by omega) c_1
    refine lv_aload_n hx hb dX9_rule_37 rfl (lv_at hl 0 rfl) ?_
    have hFc := free_all hD hS hA
    refine va_callv (va_runV (As := []) (rest := []) ⟨hx, hb, hml, hown, hts⟩ (m_reads l D h0 ad cs (upd (upd (upd (upd iv 1 0) 21 0) 22 (-1)) 26 (nI n1)) fv gv n14 0 n1  H.size h14 rfl rfl (by omega) (by omega) (by omega)) (cwV 0 hts gX9_rule_X9_reads rfl rfl rfl (by decide +kernel) ⟨Nat.le_of_ble_eq_true rfl, Nat.le_of_ble_eq_true rfl⟩) ⟨fun a U g mk q => by obtain ⟨q0, q1, qP, qK, qD⟩ := q; exact ⟨q0, q1, qP, va_K.moved (u := U) (U := U.calling g mk a) (Vm.Alike.refl U.vm) qK, qD⟩, va_recv hK hP (ci := 9) (q0 := 0) rfl rfl, fun U hU hW => ⟨rfl, by rw [hU], by rw [hU]; exact hP, va_K.moved hW.alike hK, hD.weaken (fun _ _ _ _ => trivial)⟩⟩ rfl rfl hl.1 rfl (lv_room (Nat.le_of_ble_eq_true rfl)) dX9_rule_38 ⟨Nat.le_of_ble_eq_true rfl, Nat.le_of_ble_eq_true rfl⟩) hS (fun q _ h => hFc q h) hFc (fun u t H1 locs ht hvm w_4 hB hz1 hk1 hS => ?_)
    obtain ⟨k21_5, p22_6, p25_7, p29_8, p30_9, p31_10, f15_11, f16_12, f17_13, f19_14, f28_15, q_16, q_17, q_18, q_19, hP1, hK1, hD1⟩ := hB
    replace q_17 : ∀ i : Nat, i < 200 * n14 → f19_14 i = (fv 19) i := q_17
    replace q_18 : ∀ i : Nat, ¬ i = n14 → f16_12 i = (fv 16) i := q_18
    rw [ht] at hP1
    have hK := va_K.moved hvm.symm hK1
    generalize H1 = H at hP1 hS ⊢
    have hP : va_P D vwCl (mw h0 ad cs (upd (upd (upd (upd (upd (upd (upd (upd iv 1 0) 21 (nI k21_5)) 22 p22_6) 25 p25_7) 26 (nI n1)) 29 p29_8) 30 p30_9) 31 p31_10) (uF (uF (uF (uF (uF fv 15 f15_11) 16 f16_12) 17 f17_13) 19 f19_14) 28 f28_15) gv) H := hP1
    have hD : va_D A (mw h0 ad cs (upd (upd (upd (upd (upd (upd (upd (upd iv 1 0) 21 (nI k21_5)) 22 p22_6) 25 p25_7) 26 (nI n1)) 29 p29_8) 30 p30_9) 31 p31_10) (uF (uF (uF (uF (uF fv 15 f15_11) 16 f16_12) 17 f17_13) 19 f19_14) 28 f28_15) gv) := hD1.weaken (fun _ _ _ h => hFc _ h)
    refine lv_aload_n hx hb dX9_rule_41 rfl (lv_at hl 0 rfl) ?_
    refine va_get (D := D) (ci := 9) (v := .int (nI k21_5)) (C := RX9) (T := TX9) (N := 44) hx hb hts hin9 hown hK hP 0 rfl rfl 21 (by decide) (hts (.fieldLink RX9 74 "HoneyHouseModel" "faultKind" "I") (List.mem_of_getElem? (i := 3) rfl)) (fun _ h9 => h9) rfl dX9_rule_42 ?_
    refine lv_if_le (tgt := 50) hx hb dX9_rule_45 (by decide) (fun c_20 => ?_) (fun c_20 => ?_)
    · have d_21 := n_le (a := k21_5) (b := 0) (by omega) (by omega) c_20
      refine lv_aload_n hx hb dX9_rule_50 rfl (lv_at hl 0 rfl) ?_
      refine va_get (D := D) (ci := 9) (v := .ref (ad 20)) (C := RX9) (T := TX9) (N := 44) hx hb hts hin9 hown hK hP 0 rfl rfl 20 (by decide) (hts (.fieldLink RX9 71 "HoneyHouseModel" "codeSize" "[I") (List.mem_of_getElem? (i := 6) rfl)) (fun _ h9 => h9) rfl dX9_rule_51 ?_
      refine lv_aload_n hx hb dX9_rule_54 rfl (lv_at hl 0 rfl) ?_
      refine va_get (D := D) (ci := 9) (v := .int (iv 14)) (C := RX9) (T := TX9) (N := 44) hx hb hts hin9 hown hK hP 0 rfl rfl 14 (by decide) (hts (.fieldLink RX9 53 "HoneyHouseModel" "rules" "I") (List.mem_of_getElem? (i := 5) rfl)) (fun _ h9 => h9) rfl dX9_rule_55 ?_
      refine tp_i (y := nI n14) (h14) ?_
      refine lv_aload_n hx hb dX9_rule_58 rfl (lv_at hl 0 rfl) ?_
      refine va_get (D := D) (ci := 9) (v := .int p30_9) (C := RX9) (T := TX9) (N := 44) hx hb hts hin9 hown hK hP 0 rfl rfl 30 (by decide) (hts (.fieldLink RX9 102 "HoneyHouseModel" "made" "I") (List.mem_of_getElem? (i := 7) rfl)) (fun _ h9 => h9) rfl dX9_rule_59 ?_
      refine va_iast (f := fv 20) (n := 16) hx hb hK hP hD hS 16 15 rfl rfl (vp_in_nI (n := n14) (by omega) (by omega)) dX9_rule_62 (fun H locs hP hD hS => ?_)
      have hP : va_P D vwCl (mw h0 ad cs (upd (upd (upd (upd (upd (upd (upd (upd iv 1 0) 21 (nI k21_5)) 22 p22_6) 25 p25_7) 26 (nI n1)) 29 p29_8) 30 p30_9) 31 p31_10) (uF (uF (uF (uF (uF (uF fv 15 f15_11) 16 f16_12) 17 f17_13) 19 f19_14) 20 (upd (fv 20) (nI n14).toNatClampNeg p30_9)) 28 f28_15) gv) H := hP
      have hD : va_D A (mw h0 ad cs (upd (upd (upd (upd (upd (upd (upd (upd iv 1 0) 21 (nI k21_5)) 22 p22_6) 25 p25_7) 26 (nI n1)) 29 p29_8) 30 p30_9) 31 p31_10) (uF (uF (uF (uF (uF (uF fv 15 f15_11) 16 f16_12) 17 f17_13) 19 f19_14) 20 (upd (fv 20) (nI n14).toNatClampNeg p30_9)) 28 f28_15) gv) := hD
      obtain ⟨f_22, hf_23⟩ : ∃ g9, g9 = upd (fv 20) (nI n14).toNatClampNeg p30_9 := ⟨_, rfl⟩
      rw [← hf_23] at hP hD
      rw [nI_clamp (n := n14) (by omega)] at hf_23
      refine lv_aload_n hx hb dX9_rule_63 rfl (lv_at hl 0 rfl) ?_
      refine va_get (D := D) (ci := 9) (v := .ref (ad 18)) (C := RX9) (T := TX9) (N := 44) hx hb hts hin9 hown hK hP 0 rfl rfl 18 (by decide) (hts (.fieldLink RX9 65 "HoneyHouseModel" "shuts" "[I") (List.mem_of_getElem? (i := 8) rfl)) (fun _ h9 => h9) rfl dX9_rule_64 ?_
      refine lv_aload_n hx hb dX9_rule_67 rfl (lv_at hl 0 rfl) ?_
      refine va_get (D := D) (ci := 9) (v := .int (iv 14)) (C := RX9) (T := TX9) (N := 44) hx hb hts hin9 hown hK hP 0 rfl rfl 14 (by decide) (hts (.fieldLink RX9 53 "HoneyHouseModel" "rules" "I") (List.mem_of_getElem? (i := 5) rfl)) (fun _ h9 => h9) rfl dX9_rule_68 ?_
      refine tp_i (y := nI n14) (h14) ?_
      refine lv_iconst (v := (-1)) hx hb dX9_rule_71 (by decide) ?_
      refine va_iast (f := fv 18) (n := 16) hx hb hK hP hD hS 14 13 rfl rfl (vp_in_nI (n := n14) (by omega) (by omega)) dX9_rule_72 (fun H locs hP hD hS => ?_)
      have hP : va_P D vwCl (mw h0 ad cs (upd (upd (upd (upd (upd (upd (upd (upd iv 1 0) 21 (nI k21_5)) 22 p22_6) 25 p25_7) 26 (nI n1)) 29 p29_8) 30 p30_9) 31 p31_10) (uF (uF (uF (uF (uF (uF (uF fv 15 f15_11) 16 f16_12) 17 f17_13) 18 (upd (fv 18) (nI n14).toNatClampNeg (-1))) 19 f19_14) 20 f_22) 28 f28_15) gv) H := hP
      have hD : va_D A (mw h0 ad cs (upd (upd (upd (upd (upd (upd (upd (upd iv 1 0) 21 (nI k21_5)) 22 p22_6) 25 p25_7) 26 (nI n1)) 29 p29_8) 30 p30_9) 31 p31_10) (uF (uF (uF (uF (uF (uF (uF fv 15 f15_11) 16 f16_12) 17 f17_13) 18 (upd (fv 18) (nI n14).toNatClampNeg (-1))) 19 f19_14) 20 f_22) 28 f28_15) gv) := hD
      obtain ⟨f_24, hf_25⟩ : ∃ g9, g9 = upd (fv 18) (nI n14).toNatClampNeg (-1) := ⟨_, rfl⟩
      rw [← hf_25] at hP hD
      rw [nI_clamp (n := n14) (by omega)] at hf_25
      refine lv_aload_n hx hb dX9_rule_73 rfl (lv_at hl 0 rfl) ?_
      refine lv_dup hx hb dX9_rule_74 rfl ?_
      refine va_get (D := D) (ci := 9) (v := .int (iv 14)) (C := RX9) (T := TX9) (N := 44) hx hb hts hin9 hown hK hP 0 rfl rfl 14 (by decide) (hts (.fieldLink RX9 53 "HoneyHouseModel" "rules" "I") (List.mem_of_getElem? (i := 5) rfl)) (fun _ h9 => h9) rfl dX9_rule_75 ?_
      refine tp_i (y := nI n14) (h14) ?_
      refine lv_iconst (v := 1) hx hb dX9_rule_78 (by decide) ?_
      refine lv_iadd hx hb dX9_rule_79 ?_
      refine tp_i (y := nI (n14 + 1)) (nI_add n14 1) ?_
      refine va_put (D := D) (ci := 9) (v := .int (nI (n14 + 1))) (ty := .int) (C := RX9) (T := TX9) (N := 44) hx hb hts hin9 tyX9 tyX9_ok nmX9 hown hK hP hD hS 0 rfl rfl 14 (by decide) (hts (.fieldLink RX9 53 "HoneyHouseModel" "rules" "I") (List.mem_of_getElem? (i := 5) rfl)) (fun _ h9 => h9) rfl (tyX9_ok 14 (by decide)) rfl rfl (Nat.le_of_ble_eq_true rfl) dX9_rule_80 (fun H locs hP hD hS => ?_)
      have hP : va_P D vwCl (mw h0 ad cs (upd (upd (upd (upd (upd (upd (upd (upd (upd iv 1 0) 14 (nI (n14 + 1))) 21 (nI k21_5)) 22 p22_6) 25 p25_7) 26 (nI n1)) 29 p29_8) 30 p30_9) 31 p31_10) (uF (uF (uF (uF (uF (uF (uF fv 15 f15_11) 16 f16_12) 17 f17_13) 18 f_24) 19 f19_14) 20 f_22) 28 f28_15) gv) H := hP
      have hD : va_D A (mw h0 ad cs (upd (upd (upd (upd (upd (upd (upd (upd (upd iv 1 0) 14 (nI (n14 + 1))) 21 (nI k21_5)) 22 p22_6) 25 p25_7) 26 (nI n1)) 29 p29_8) 30 p30_9) 31 p31_10) (uF (uF (uF (uF (uF (uF (uF fv 15 f15_11) 16 f16_12) 17 f17_13) 18 f_24) 19 f19_14) 20 f_22) 28 f28_15) gv) := hD
      refine lv_aload_n hx hb dX9_rule_83 rfl (lv_at hl 0 rfl) ?_
      refine va_get (D := D) (ci := 9) (v := .int (nI (n14 + 1))) (C := RX9) (T := TX9) (N := 44) hx hb hts hin9 hown hK hP 0 rfl rfl 14 (by decide) (hts (.fieldLink RX9 53 "HoneyHouseModel" "rules" "I") (List.mem_of_getElem? (i := 5) rfl)) (fun _ h9 => h9) rfl dX9_rule_84 ?_
      refine lv_iconst (v := 1) hx hb dX9_rule_87 (by decide) ?_
      refine lv_isub hx hb dX9_rule_88 ?_
      refine tp_i (y := nI ((n14 + 1) - 1)) (pk_sub (a := n14 + 1) (b := 1) (by omega)) ?_
      have hP : va_P D vwCl (mw h0 ad cs (upd (upd (upd (upd (upd (upd (upd (upd (upd iv 1 0) 14 (nI (n14 + 1))) 21 (nI k21_5)) 22 p22_6) 25 p25_7) 26 (nI n1)) 29 p29_8) 30 p30_9) 31 p31_10) (uF (uF (uF (uF (uF (uF (uF (uF (uF fv 15 f15_11) 16 f16_12) 17 f17_13) 18 f_24) 19 f19_14) 20 f_22) 28 f28_15) 32 (fv 32)) 33 (fv 33)) gv) H := hP
      have hD : va_D A (mw h0 ad cs (upd (upd (upd (upd (upd (upd (upd (upd (upd iv 1 0) 14 (nI (n14 + 1))) 21 (nI k21_5)) 22 p22_6) 25 p25_7) 26 (nI n1)) 29 p29_8) 30 p30_9) 31 p31_10) (uF (uF (uF (uF (uF (uF (uF (uF (uF fv 15 f15_11) 16 f16_12) 17 f17_13) 18 f_24) 19 f19_14) 20 f_22) 28 f28_15) 32 (fv 32)) 33 (fv 33)) gv) := hD
      exact W.iret (v := nI ((n14 + 1) - 1)) hx hb hr (fun t ht hW => ⟨⟨nI ((n14 + 1) - 1), nI ((n14 + 1) - 1), rfl, rfl, n14 + 1, nI k21_5, p22_6, p25_7, nI n1, p29_8, p30_9, p31_10, f15_11, f16_12, f17_13, f_24, f19_14, f_22, f28_15, fv 32, fv 33, by omega, (fun i h9 => (Nat.lt_or_ge i n14).elim (fun q => by obtain ⟨k9, hk9, e9⟩ := hN i (by omega); exact ⟨k9, hk9, (q_18 i (by omega)).trans e9⟩) (fun q => by rw [show i = n14 by omega]; exact (q_19.resolve_left (by omega)).1)), (fun i h9 => (Nat.lt_or_ge i n14).elim (fun q => by obtain ⟨k9, n9, hk9, e9, hw9⟩ := hC i (by omega); exact ⟨k9, n9, hk9, by rw [hf_23, up_ne (by omega)]; exact e9, hw9.ext (fun j h1 h2 => q_17 j (by omega))⟩) (fun q => by obtain ⟨m9, n9, e9, hm9, hw9⟩ := (q_19.resolve_left (by omega)).2; rw [show i = n14 by omega]; exact ⟨m9, n9, hm9, by rw [hf_23, up_eq]; exact e9, hw9⟩)), by rw [ht]; exact hP, va_K.moved hW.alike hK, hD⟩, hS.F ht⟩) hS.2.2 dX9_rule_89
    have d_26 := n_nle (a := k21_5) (b := 0) (by omega) (by omega) c_20
    refine lv_iconst (v := (-1)) hx hb dX9_rule_48 (by decide) ?_
    have hP : va_P D vwCl (mw h0 ad cs (upd (upd (upd (upd (upd (upd (upd (upd (upd iv 1 0) 14 (iv 14)) 21 (nI k21_5)) 22 p22_6) 25 p25_7) 26 (nI n1)) 29 p29_8) 30 p30_9) 31 p31_10) (uF (uF (uF (uF (uF (uF (uF (uF (uF fv 15 f15_11) 16 f16_12) 17 f17_13) 18 (fv 18)) 19 f19_14) 20 (fv 20)) 28 f28_15) 32 (fv 32)) 33 (fv 33)) gv) H := hP
    have hD : va_D A (mw h0 ad cs (upd (upd (upd (upd (upd (upd (upd (upd (upd iv 1 0) 14 (iv 14)) 21 (nI k21_5)) 22 p22_6) 25 p25_7) 26 (nI n1)) 29 p29_8) 30 p30_9) 31 p31_10) (uF (uF (uF (uF (uF (uF (uF (uF (uF fv 15 f15_11) 16 f16_12) 17 f17_13) 18 (fv 18)) 19 f19_14) 20 (fv 20)) 28 f28_15) 32 (fv 32)) 33 (fv 33)) gv) := hD
    have hP := hP
    rw [h14] at hP hD
    exact W.iret (v := (-1)) hx hb hr (fun t ht hW => ⟨⟨(-1), (-1), rfl, rfl, n14, nI k21_5, p22_6, p25_7, nI n1, p29_8, p30_9, p31_10, f15_11, f16_12, f17_13, fv 18, f19_14, fv 20, f28_15, fv 32, fv 33, by omega, (fun i h9 => by obtain ⟨k9, hk9, e9⟩ := hN i (by omega); exact ⟨k9, hk9, (q_18 i (by omega)).trans e9⟩), (fun i h9 => by obtain ⟨k9, n9, hk9, e9, hw9⟩ := hC i (by omega); exact ⟨k9, n9, hk9, e9, hw9.ext (fun j h1 h2 => q_17 j (by omega))⟩), by rw [ht]; exact hP, va_K.moved hW.alike hK, hD⟩, hS.F ht⟩) hS.2.2 dX9_rule_49
  have d_27 := n_eq (a := n14) (b := 16) (by omega) (by omega) c_1
  refine lv_aload_n hx hb dX9_rule_32 rfl (lv_at hl 0 rfl) ?_
  have hFc := free_all hD hS hA
  refine va_calli (va_runV (As := []) (rest := []) ⟨hx, hb, hml, hown, hts⟩ (m_full l D h0 ad cs (upd (upd (upd (upd iv 1 0) 21 0) 22 (-1)) 26 (nI n1)) fv gv n14 0 n1  H.size h14 rfl rfl (by omega) (by omega) (by omega)) (cwV 0 hts gX9_rule_X9_full rfl rfl rfl (by decide +kernel) ⟨Nat.le_of_ble_eq_true rfl, Nat.le_of_ble_eq_true rfl⟩) ⟨fun a U g mk q => by obtain ⟨q0, q1, qP, qK, qD⟩ := q; exact ⟨q0, q1, qP, va_K.moved (u := U) (U := U.calling g mk a) (Vm.Alike.refl U.vm) qK, qD⟩, va_recv hK hP (ci := 9) (q0 := 0) rfl rfl, fun U hU hW => ⟨rfl, by rw [hU], by rw [hU]; exact hP, va_K.moved hW.alike hK, hD.weaken (fun _ _ _ _ => trivial)⟩⟩ rfl rfl hl.1 rfl (lv_room (Nat.le_of_ble_eq_true rfl)) dX9_rule_33 ⟨Nat.le_of_ble_eq_true rfl, Nat.le_of_ble_eq_true rfl⟩) hS (fun q _ h => hFc q h) hFc (fun r_28 u t H1 locs ht hvm w_29 hB hz1 hk1 hS => ?_)
  subst w_29
  obtain ⟨k14_30, k21_31, p22_32, p25_33, p29_34, p30_35, p31_36, f15_37, f16_38, f17_39, f19_40, f28_41, f32_42, f33_43, q_44, q_45, q_46, q_47, hP1, hK1, hD1⟩ := hB
  replace q_46 : ∀ i : Nat, i < 200 * n14 → f19_40 i = (fv 19) i := q_46
  replace q_47 : ∀ i : Nat, f16_38 i = (fv 16) i := q_47
  rw [ht] at hP1
  have hK := va_K.moved hvm.symm hK1
  generalize H1 = H at hP1 hS ⊢
  have hP : va_P D vwCl (mw h0 ad cs (upd (upd (upd (upd (upd (upd (upd (upd (upd iv 1 0) 14 (nI k14_30)) 21 (nI k21_31)) 22 p22_32) 25 p25_33) 26 (nI n1)) 29 p29_34) 30 p30_35) 31 p31_36) (uF (uF (uF (uF (uF (uF (uF fv 15 f15_37) 16 f16_38) 17 f17_39) 19 f19_40) 28 f28_41) 32 f32_42) 33 f33_43) gv) H := hP1
  have hD : va_D A (mw h0 ad cs (upd (upd (upd (upd (upd (upd (upd (upd (upd iv 1 0) 14 (nI k14_30)) 21 (nI k21_31)) 22 p22_32) 25 p25_33) 26 (nI n1)) 29 p29_34) 30 p30_35) 31 p31_36) (uF (uF (uF (uF (uF (uF (uF fv 15 f15_37) 16 f16_38) 17 f17_39) 19 f19_40) 28 f28_41) 32 f32_42) 33 f33_43) gv) := hD1.weaken (fun _ _ _ h => hFc _ h)
  have hP : va_P D vwCl (mw h0 ad cs (upd (upd (upd (upd (upd (upd (upd (upd (upd iv 1 0) 14 (nI k14_30)) 21 (nI k21_31)) 22 p22_32) 25 p25_33) 26 (nI n1)) 29 p29_34) 30 p30_35) 31 p31_36) (uF (uF (uF (uF (uF (uF (uF (uF (uF fv 15 f15_37) 16 f16_38) 17 f17_39) 18 (fv 18)) 19 f19_40) 20 (fv 20)) 28 f28_41) 32 f32_42) 33 f33_43) gv) H := hP
  have hD : va_D A (mw h0 ad cs (upd (upd (upd (upd (upd (upd (upd (upd (upd iv 1 0) 14 (nI k14_30)) 21 (nI k21_31)) 22 p22_32) 25 p25_33) 26 (nI n1)) 29 p29_34) 30 p30_35) 31 p31_36) (uF (uF (uF (uF (uF (uF (uF (uF (uF fv 15 f15_37) 16 f16_38) 17 f17_39) 18 (fv 18)) 19 f19_40) 20 (fv 20)) 28 f28_41) 32 f32_42) 33 f33_43) gv) := hD
  exact W.iret (v := r_28) hx hb hr (fun t ht hW => ⟨⟨r_28, r_28, rfl, rfl, k14_30, nI k21_31, p22_32, p25_33, nI n1, p29_34, p30_35, p31_36, f15_37, f16_38, f17_39, fv 18, f19_40, fv 20, f28_41, f32_42, f33_43, by omega, (fun i h9 => by obtain ⟨k9, hk9, e9⟩ := hN i (by omega); exact ⟨k9, hk9, (q_47 i).trans e9⟩), (fun i h9 => by obtain ⟨k9, n9, hk9, e9, hw9⟩ := hC i (by omega); exact ⟨k9, n9, hk9, e9, hw9.ext (fun j h1 h2 => q_46 j (by omega))⟩), by rw [ht]; exact hP, va_K.moved hW.alike hK, hD⟩, hS.F ht⟩) hS.2.2 dX9_rule_36
