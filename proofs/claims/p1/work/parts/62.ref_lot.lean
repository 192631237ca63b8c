theorem dX9_pay_0 : decode cX9_pay 0 = .ok (.iconst 0, 1) := by decide +kernel
theorem dX9_pay_1 : decode cX9_pay 1 = .ok (.istore_n 3, 1) := by decide +kernel
theorem dX9_pay_2 : decode cX9_pay 2 = .ok (.iload_n 3, 1) := by decide +kernel
theorem dX9_pay_3 : decode cX9_pay 3 = .ok (.iconst 4, 1) := by decide +kernel
theorem dX9_pay_4 : decode cX9_pay 4 = .ok (.if_icmp .ge 61, 3) := by decide +kernel
theorem dX9_pay_7 : decode cX9_pay 7 = .ok (.iload_n 2, 1) := by decide +kernel
theorem dX9_pay_8 : decode cX9_pay 8 = .ok (.aload_n 0, 1) := by decide +kernel
theorem dX9_pay_9 : decode cX9_pay 9 = .ok (.getfield 32, 3) := by decide +kernel
theorem dX9_pay_12 : decode cX9_pay 12 = .ok (.bipush 8, 2) := by decide +kernel
theorem dX9_pay_14 : decode cX9_pay 14 = .ok (.iload_n 1, 1) := by decide +kernel
theorem dX9_pay_15 : decode cX9_pay 15 = .ok (.imul, 1) := by decide +kernel
theorem dX9_pay_16 : decode cX9_pay 16 = .ok (.iconst 2, 1) := by decide +kernel
theorem dX9_pay_17 : decode cX9_pay 17 = .ok (.iload_n 3, 1) := by decide +kernel
theorem dX9_pay_18 : decode cX9_pay 18 = .ok (.imul, 1) := by decide +kernel
theorem dX9_pay_19 : decode cX9_pay 19 = .ok (.iadd, 1) := by decide +kernel
theorem dX9_pay_20 : decode cX9_pay 20 = .ok (.iaload, 1) := by decide +kernel
theorem dX9_pay_21 : decode cX9_pay 21 = .ok (.if_icmp .gt 38, 3) := by decide +kernel
theorem dX9_pay_24 : decode cX9_pay 24 = .ok (.aload_n 0, 1) := by decide +kernel
theorem dX9_pay_25 : decode cX9_pay 25 = .ok (.getfield 23, 3) := by decide +kernel
theorem dX9_pay_28 : decode cX9_pay 28 = .ok (.bipush 7, 2) := by decide +kernel
theorem dX9_pay_30 : decode cX9_pay 30 = .ok (.iload_n 1, 1) := by decide +kernel
theorem dX9_pay_31 : decode cX9_pay 31 = .ok (.imul, 1) := by decide +kernel
theorem dX9_pay_32 : decode cX9_pay 32 = .ok (.iconst 1, 1) := by decide +kernel
theorem dX9_pay_33 : decode cX9_pay 33 = .ok (.iadd, 1) := by decide +kernel
theorem dX9_pay_34 : decode cX9_pay 34 = .ok (.iaload, 1) := by decide +kernel
theorem dX9_pay_35 : decode cX9_pay 35 = .ok (.i2l, 1) := by decide +kernel
theorem dX9_pay_36 : decode cX9_pay 36 = .ok (.aload_n 0, 1) := by decide +kernel
theorem dX9_pay_37 : decode cX9_pay 37 = .ok (.getfield 32, 3) := by decide +kernel
theorem dX9_pay_40 : decode cX9_pay 40 = .ok (.bipush 8, 2) := by decide +kernel
theorem dX9_pay_42 : decode cX9_pay 42 = .ok (.iload_n 1, 1) := by decide +kernel
theorem dX9_pay_43 : decode cX9_pay 43 = .ok (.imul, 1) := by decide +kernel
theorem dX9_pay_44 : decode cX9_pay 44 = .ok (.iconst 2, 1) := by decide +kernel
theorem dX9_pay_45 : decode cX9_pay 45 = .ok (.iload_n 3, 1) := by decide +kernel
theorem dX9_pay_46 : decode cX9_pay 46 = .ok (.imul, 1) := by decide +kernel
theorem dX9_pay_47 : decode cX9_pay 47 = .ok (.iadd, 1) := by decide +kernel
theorem dX9_pay_48 : decode cX9_pay 48 = .ok (.iconst 1, 1) := by decide +kernel
theorem dX9_pay_49 : decode cX9_pay 49 = .ok (.iadd, 1) := by decide +kernel
theorem dX9_pay_50 : decode cX9_pay 50 = .ok (.iaload, 1) := by decide +kernel
theorem dX9_pay_51 : decode cX9_pay 51 = .ok (.i2l, 1) := by decide +kernel
theorem dX9_pay_52 : decode cX9_pay 52 = .ok (.lmul, 1) := by decide +kernel
theorem dX9_pay_53 : decode cX9_pay 53 = .ok (.ldc2_w 149, 3) := by decide +kernel
theorem dX9_pay_56 : decode cX9_pay 56 = .ok (.ldiv, 1) := by decide +kernel
theorem dX9_pay_57 : decode cX9_pay 57 = .ok (.l2i, 1) := by decide +kernel
theorem dX9_pay_58 : decode cX9_pay 58 = .ok (.ireturn, 1) := by decide +kernel
theorem dX9_pay_59 : decode cX9_pay 59 = .ok (.iinc 3 1, 3) := by decide +kernel
theorem dX9_pay_62 : decode cX9_pay 62 = .ok (.goto (-60), 3) := by decide +kernel
theorem dX9_pay_65 : decode cX9_pay 65 = .ok (.iconst 0, 1) := by decide +kernel
theorem dX9_pay_66 : decode cX9_pay 66 = .ok (.ireturn, 1) := by decide +kernel
theorem dX9_lot_0 : decode cX9_lot 0 = .ok (.iload_n 1, 1) := by decide +kernel
theorem dX9_lot_1 : decode cX9_lot 1 = .ok (.iconst 0, 1) := by decide +kernel
theorem dX9_lot_2 : decode cX9_lot 2 = .ok (.bipush 9, 2) := by decide +kernel
theorem dX9_lot_4 : decode cX9_lot 4 = .ok (.invokestatic 151, 3) := by decide +kernel
theorem dX9_lot_7 : decode cX9_lot 7 = .ok (.ifCond .eq 56, 3) := by decide +kernel
theorem dX9_lot_10 : decode cX9_lot 10 = .ok (.iload_n 2, 1) := by decide +kernel
theorem dX9_lot_11 : decode cX9_lot 11 = .ok (.iconst 1, 1) := by decide +kernel
theorem dX9_lot_12 : decode cX9_lot 12 = .ok (.ldc 155, 2) := by decide +kernel
theorem dX9_lot_14 : decode cX9_lot 14 = .ok (.invokestatic 151, 3) := by decide +kernel
theorem dX9_lot_17 : decode cX9_lot 17 = .ok (.ifCond .eq 46, 3) := by decide +kernel
theorem dX9_lot_20 : decode cX9_lot 20 = .ok (.iload_n 3, 1) := by decide +kernel
theorem dX9_lot_21 : decode cX9_lot 21 = .ok (.bipush 100, 2) := by decide +kernel
theorem dX9_lot_23 : decode cX9_lot 23 = .ok (.sipush 300, 3) := by decide +kernel
theorem dX9_lot_26 : decode cX9_lot 26 = .ok (.invokestatic 151, 3) := by decide +kernel
theorem dX9_lot_29 : decode cX9_lot 29 = .ok (.ifCond .eq 34, 3) := by decide +kernel
theorem dX9_lot_32 : decode cX9_lot 32 = .ok (.iload 4, 2) := by decide +kernel
theorem dX9_lot_34 : decode cX9_lot 34 = .ok (.iconst 0, 1) := by decide +kernel
theorem dX9_lot_35 : decode cX9_lot 35 = .ok (.sipush 140, 3) := by decide +kernel
theorem dX9_lot_38 : decode cX9_lot 38 = .ok (.invokestatic 151, 3) := by decide +kernel
theorem dX9_lot_41 : decode cX9_lot 41 = .ok (.ifCond .eq 22, 3) := by decide +kernel
theorem dX9_lot_44 : decode cX9_lot 44 = .ok (.iload 5, 2) := by decide +kernel
theorem dX9_lot_46 : decode cX9_lot 46 = .ok (.iconst 0, 1) := by decide +kernel
theorem dX9_lot_47 : decode cX9_lot 47 = .ok (.iconst 3, 1) := by decide +kernel
theorem dX9_lot_48 : decode cX9_lot 48 = .ok (.invokestatic 151, 3) := by decide +kernel
theorem dX9_lot_51 : decode cX9_lot 51 = .ok (.ifCond .eq 12, 3) := by decide +kernel
theorem dX9_lot_54 : decode cX9_lot 54 = .ok (.aload_n 0, 1) := by decide +kernel
theorem dX9_lot_55 : decode cX9_lot 55 = .ok (.getfield 20, 3) := by decide +kernel
theorem dX9_lot_58 : decode cX9_lot 58 = .ok (.bipush 40, 2) := by decide +kernel
theorem dX9_lot_60 : decode cX9_lot 60 = .ok (.if_icmp .ne 5, 3) := by decide +kernel
theorem dX9_lot_63 : decode cX9_lot 63 = .ok (.iconst (-1), 1) := by decide +kernel
theorem dX9_lot_64 : decode cX9_lot 64 = .ok (.ireturn, 1) := by decide +kernel
theorem dX9_lot_65 : decode cX9_lot 65 = .ok (.aload_n 0, 1) := by decide +kernel
theorem dX9_lot_66 : decode cX9_lot 66 = .ok (.getfield 20, 3) := by decide +kernel
theorem dX9_lot_69 : decode cX9_lot 69 = .ok (.istore 6, 2) := by decide +kernel
theorem dX9_lot_71 : decode cX9_lot 71 = .ok (.aload_n 0, 1) := by decide +kernel
theorem dX9_lot_72 : decode cX9_lot 72 = .ok (.dup, 1) := by decide +kernel
theorem dX9_lot_73 : decode cX9_lot 73 = .ok (.getfield 20, 3) := by decide +kernel
theorem dX9_lot_76 : decode cX9_lot 76 = .ok (.iconst 1, 1) := by decide +kernel
theorem dX9_lot_77 : decode cX9_lot 77 = .ok (.iadd, 1) := by decide +kernel
theorem dX9_lot_78 : decode cX9_lot 78 = .ok (.putfield 20, 3) := by decide +kernel
theorem dX9_lot_81 : decode cX9_lot 81 = .ok (.aload_n 0, 1) := by decide +kernel
theorem dX9_lot_82 : decode cX9_lot 82 = .ok (.getfield 23, 3) := by decide +kernel
theorem dX9_lot_85 : decode cX9_lot 85 = .ok (.bipush 7, 2) := by decide +kernel
theorem dX9_lot_87 : decode cX9_lot 87 = .ok (.iload 6, 2) := by decide +kernel
theorem dX9_lot_89 : decode cX9_lot 89 = .ok (.imul, 1) := by decide +kernel
theorem dX9_lot_90 : decode cX9_lot 90 = .ok (.iload_n 1, 1) := by decide +kernel
theorem dX9_lot_91 : decode cX9_lot 91 = .ok (.iastore, 1) := by decide +kernel
theorem dX9_lot_92 : decode cX9_lot 92 = .ok (.aload_n 0, 1) := by decide +kernel
theorem dX9_lot_93 : decode cX9_lot 93 = .ok (.getfield 23, 3) := by decide +kernel
theorem dX9_lot_96 : decode cX9_lot 96 = .ok (.bipush 7, 2) := by decide +kernel
theorem dX9_lot_98 : decode cX9_lot 98 = .ok (.iload 6, 2) := by decide +kernel
theorem dX9_lot_100 : decode cX9_lot 100 = .ok (.imul, 1) := by decide +kernel
theorem dX9_lot_101 : decode cX9_lot 101 = .ok (.iconst 1, 1) := by decide +kernel
theorem dX9_lot_102 : decode cX9_lot 102 = .ok (.iadd, 1) := by decide +kernel
theorem dX9_lot_103 : decode cX9_lot 103 = .ok (.iload_n 2, 1) := by decide +kernel
theorem dX9_lot_104 : decode cX9_lot 104 = .ok (.iastore, 1) := by decide +kernel
theorem dX9_lot_105 : decode cX9_lot 105 = .ok (.aload_n 0, 1) := by decide +kernel
theorem dX9_lot_106 : decode cX9_lot 106 = .ok (.getfield 23, 3) := by decide +kernel
theorem dX9_lot_109 : decode cX9_lot 109 = .ok (.bipush 7, 2) := by decide +kernel
theorem dX9_lot_111 : decode cX9_lot 111 = .ok (.iload 6, 2) := by decide +kernel
theorem dX9_lot_113 : decode cX9_lot 113 = .ok (.imul, 1) := by decide +kernel
theorem dX9_lot_114 : decode cX9_lot 114 = .ok (.iconst 2, 1) := by decide +kernel
theorem dX9_lot_115 : decode cX9_lot 115 = .ok (.iadd, 1) := by decide +kernel
theorem dX9_lot_116 : decode cX9_lot 116 = .ok (.iload_n 3, 1) := by decide +kernel
theorem dX9_lot_117 : decode cX9_lot 117 = .ok (.iastore, 1) := by decide +kernel
theorem dX9_lot_118 : decode cX9_lot 118 = .ok (.aload_n 0, 1) := by decide +kernel
theorem dX9_lot_119 : decode cX9_lot 119 = .ok (.getfield 23, 3) := by decide +kernel
theorem dX9_lot_122 : decode cX9_lot 122 = .ok (.bipush 7, 2) := by decide +kernel
theorem dX9_lot_124 : decode cX9_lot 124 = .ok (.iload 6, 2) := by decide +kernel
theorem dX9_lot_126 : decode cX9_lot 126 = .ok (.imul, 1) := by decide +kernel
theorem dX9_lot_127 : decode cX9_lot 127 = .ok (.iconst 3, 1) := by decide +kernel
theorem dX9_lot_128 : decode cX9_lot 128 = .ok (.iadd, 1) := by decide +kernel
theorem dX9_lot_129 : decode cX9_lot 129 = .ok (.iload 4, 2) := by decide +kernel
theorem dX9_lot_131 : decode cX9_lot 131 = .ok (.iastore, 1) := by decide +kernel
theorem dX9_lot_132 : decode cX9_lot 132 = .ok (.aload_n 0, 1) := by decide +kernel
theorem dX9_lot_133 : decode cX9_lot 133 = .ok (.getfield 23, 3) := by decide +kernel
theorem dX9_lot_136 : decode cX9_lot 136 = .ok (.bipush 7, 2) := by decide +kernel
theorem dX9_lot_138 : decode cX9_lot 138 = .ok (.iload 6, 2) := by decide +kernel
theorem dX9_lot_140 : decode cX9_lot 140 = .ok (.imul, 1) := by decide +kernel
theorem dX9_lot_141 : decode cX9_lot 141 = .ok (.iconst 4, 1) := by decide +kernel
theorem dX9_lot_142 : decode cX9_lot 142 = .ok (.iadd, 1) := by decide +kernel
theorem dX9_lot_143 : decode cX9_lot 143 = .ok (.iload 5, 2) := by decide +kernel
theorem dX9_lot_145 : decode cX9_lot 145 = .ok (.iastore, 1) := by decide +kernel
theorem dX9_lot_146 : decode cX9_lot 146 = .ok (.aload_n 0, 1) := by decide +kernel
theorem dX9_lot_147 : decode cX9_lot 147 = .ok (.getfield 23, 3) := by decide +kernel
theorem dX9_lot_150 : decode cX9_lot 150 = .ok (.bipush 7, 2) := by decide +kernel
theorem dX9_lot_152 : decode cX9_lot 152 = .ok (.iload 6, 2) := by decide +kernel
theorem dX9_lot_154 : decode cX9_lot 154 = .ok (.imul, 1) := by decide +kernel
theorem dX9_lot_155 : decode cX9_lot 155 = .ok (.iconst 5, 1) := by decide +kernel
theorem dX9_lot_156 : decode cX9_lot 156 = .ok (.iadd, 1) := by decide +kernel
theorem dX9_lot_157 : decode cX9_lot 157 = .ok (.iload_n 2, 1) := by decide +kernel
theorem dX9_lot_158 : decode cX9_lot 158 = .ok (.iastore, 1) := by decide +kernel
theorem dX9_lot_159 : decode cX9_lot 159 = .ok (.iconst 0, 1) := by decide +kernel
theorem dX9_lot_160 : decode cX9_lot 160 = .ok (.istore 7, 2) := by decide +kernel
theorem dX9_lot_162 : decode cX9_lot 162 = .ok (.iload 7, 2) := by decide +kernel
theorem dX9_lot_164 : decode cX9_lot 164 = .ok (.iconst 5, 1) := by decide +kernel
theorem dX9_lot_165 : decode cX9_lot 165 = .ok (.if_icmp .ge 37, 3) := by decide +kernel
theorem dX9_lot_168 : decode cX9_lot 168 = .ok (.aload_n 0, 1) := by decide +kernel
theorem dX9_lot_169 : decode cX9_lot 169 = .ok (.getfield 26, 3) := by decide +kernel
theorem dX9_lot_172 : decode cX9_lot 172 = .ok (.iconst 5, 1) := by decide +kernel
theorem dX9_lot_173 : decode cX9_lot 173 = .ok (.iload 6, 2) := by decide +kernel
theorem dX9_lot_175 : decode cX9_lot 175 = .ok (.imul, 1) := by decide +kernel
theorem dX9_lot_176 : decode cX9_lot 176 = .ok (.iload 7, 2) := by decide +kernel
theorem dX9_lot_178 : decode cX9_lot 178 = .ok (.iadd, 1) := by decide +kernel
theorem dX9_lot_179 : decode cX9_lot 179 = .ok (.iconst 0, 1) := by decide +kernel
theorem dX9_lot_180 : decode cX9_lot 180 = .ok (.iastore, 1) := by decide +kernel
theorem dX9_lot_181 : decode cX9_lot 181 = .ok (.aload_n 0, 1) := by decide +kernel
theorem dX9_lot_182 : decode cX9_lot 182 = .ok (.getfield 29, 3) := by decide +kernel
theorem dX9_lot_185 : decode cX9_lot 185 = .ok (.iconst 5, 1) := by decide +kernel
theorem dX9_lot_186 : decode cX9_lot 186 = .ok (.iload 6, 2) := by decide +kernel
theorem dX9_lot_188 : decode cX9_lot 188 = .ok (.imul, 1) := by decide +kernel
theorem dX9_lot_189 : decode cX9_lot 189 = .ok (.iload 7, 2) := by decide +kernel
theorem dX9_lot_191 : decode cX9_lot 191 = .ok (.iadd, 1) := by decide +kernel
theorem dX9_lot_192 : decode cX9_lot 192 = .ok (.sipush 1000, 3) := by decide +kernel
theorem dX9_lot_195 : decode cX9_lot 195 = .ok (.iastore, 1) := by decide +kernel
theorem dX9_lot_196 : decode cX9_lot 196 = .ok (.iinc 7 1, 3) := by decide +kernel
theorem dX9_lot_199 : decode cX9_lot 199 = .ok (.goto (-37), 3) := by decide +kernel
theorem dX9_lot_202 : decode cX9_lot 202 = .ok (.iconst 0, 1) := by decide +kernel
theorem dX9_lot_203 : decode cX9_lot 203 = .ok (.istore 7, 2) := by decide +kernel
theorem dX9_lot_205 : decode cX9_lot 205 = .ok (.iload 7, 2) := by decide +kernel
theorem dX9_lot_207 : decode cX9_lot 207 = .ok (.bipush 8, 2) := by decide +kernel
theorem dX9_lot_209 : decode cX9_lot 209 = .ok (.if_icmp .ge 29, 3) := by decide +kernel
theorem dX9_lot_212 : decode cX9_lot 212 = .ok (.aload_n 0, 1) := by decide +kernel
theorem dX9_lot_213 : decode cX9_lot 213 = .ok (.getfield 32, 3) := by decide +kernel
theorem dX9_lot_216 : decode cX9_lot 216 = .ok (.bipush 8, 2) := by decide +kernel
theorem dX9_lot_218 : decode cX9_lot 218 = .ok (.iload 6, 2) := by decide +kernel
theorem dX9_lot_220 : decode cX9_lot 220 = .ok (.imul, 1) := by decide +kernel
theorem dX9_lot_221 : decode cX9_lot 221 = .ok (.iload 7, 2) := by decide +kernel
theorem dX9_lot_223 : decode cX9_lot 223 = .ok (.iadd, 1) := by decide +kernel
theorem dX9_lot_224 : decode cX9_lot 224 = .ok (.aload_n 0, 1) := by decide +kernel
theorem dX9_lot_225 : decode cX9_lot 225 = .ok (.getfield 35, 3) := by decide +kernel
theorem dX9_lot_228 : decode cX9_lot 228 = .ok (.iload 7, 2) := by decide +kernel
theorem dX9_lot_230 : decode cX9_lot 230 = .ok (.iaload, 1) := by decide +kernel
theorem dX9_lot_231 : decode cX9_lot 231 = .ok (.iastore, 1) := by decide +kernel
theorem dX9_lot_232 : decode cX9_lot 232 = .ok (.iinc 7 1, 3) := by decide +kernel
theorem dX9_lot_235 : decode cX9_lot 235 = .ok (.goto (-30), 3) := by decide +kernel
theorem dX9_lot_238 : decode cX9_lot 238 = .ok (.aload_n 0, 1) := by decide +kernel
theorem dX9_lot_239 : decode cX9_lot 239 = .ok (.getfield 23, 3) := by decide +kernel
theorem dX9_lot_242 : decode cX9_lot 242 = .ok (.bipush 7, 2) := by decide +kernel
theorem dX9_lot_244 : decode cX9_lot 244 = .ok (.iload 6, 2) := by decide +kernel
theorem dX9_lot_246 : decode cX9_lot 246 = .ok (.imul, 1) := by decide +kernel
theorem dX9_lot_247 : decode cX9_lot 247 = .ok (.bipush 6, 2) := by decide +kernel
theorem dX9_lot_249 : decode cX9_lot 249 = .ok (.iadd, 1) := by decide +kernel
theorem dX9_lot_250 : decode cX9_lot 250 = .ok (.aload_n 0, 1) := by decide +kernel
theorem dX9_lot_251 : decode cX9_lot 251 = .ok (.iload 6, 2) := by decide +kernel
theorem dX9_lot_253 : decode cX9_lot 253 = .ok (.iload_n 3, 1) := by decide +kernel
theorem dX9_lot_254 : decode cX9_lot 254 = .ok (.invokevirtual 156, 3) := by decide +kernel
theorem dX9_lot_257 : decode cX9_lot 257 = .ok (.iastore, 1) := by decide +kernel
theorem dX9_lot_258 : decode cX9_lot 258 = .ok (.iload 6, 2) := by decide +kernel
theorem dX9_lot_260 : decode cX9_lot 260 = .ok (.ireturn, 1) := by decide +kernel
set_option maxRecDepth 20000 in
theorem ggX9_lot_X9_is : GoodIn wsX9_lot wsX9_is := goodIn_r _ [11] (by decide +kernel) (by decide +kernel)
set_option maxRecDepth 20000 in
theorem gX9_lot_X9_is : GoodIn wsX9_lot (va_wsS RX9 151 yX9_is wsX9_is) := goodIn_app (goodIn_of _ (by decide +kernel)) ggX9_lot_X9_is
set_option maxRecDepth 20000 in
theorem ggX9_lot_X9_pay : GoodIn wsX9_lot wsX9_pay := goodIn_r _ [15, 6, 3, 16, 17, 18, 19, 20, 21, 22, 23, 24, 25, 26, 27, 28, 29, 30, 31, 32, 33, 34, 35, 36, 37, 38, 39, 40, 41, 42, 43, 44, 45, 46, 47, 48, 49, 50, 51, 52, 53, 54, 55, 56, 57, 58, 59, 60] (by decide +kernel) (by decide +kernel)
set_option maxRecDepth 20000 in
theorem gX9_lot_X9_pay : GoodIn wsX9_lot (wsV RX9 156 RX9 yX9_pay wsX9_pay) := goodIn_app (goodIn_of _ (by decide +kernel)) ggX9_lot_X9_pay
set_option maxHeartbeats 4000000 in
set_option maxRecDepth 100000 in
theorem s_X9_pay (l : Launch) (D : va_G) (ws : va_W) (tys : List (ClassId × FieldType)) (h0 k0 m4 m7 k4 k7 : Nat) (fs : List Value) (c4 c7 : ClassId) (t4 t7 : Nat) (f4 f7 : Nat → Int32) (a2 : Int32) (e0 : ws[k0]? = some (h0, .inr (9, fs))) (g4 : fs[4]? = some (.ref m4)) (g7 : fs[7]? = some (.ref m7)) (e4 : ws[k4]? = some (m4, .inl (c4, 280, .inl f4))) (u4 : tys[t4]? = some (c4, .int)) (e7 : ws[k7]? = some (m7, .inl (c7, 320, .inl f7))) (u7 : tys[t7]? = some (c7, .int)) : Met l yX9_pay wsX9_pay ({ frames := 0, cells := 0, slots := 0, locals := 0 }) (va_Pc [.ref h0, .int 0, .int a2] (fun U => va_P D vwCl ws U.heap ∧ va_K D vwCl tys U)) (vp_Si (fun r => True)) 0 0 (fun _ => False) := by
  refine Met.ofW (cc := cX9_pay) (maxL := 4) (ret := (some .int)) (by decide) rfl ?_
  intro p e s m args below meth c s₁ B hml hv
  obtain ⟨rfl, hP, hK⟩ := hv
  have hx := B.exec
  have hb := B.bytes
  have hr := B.returns
  have hts := atoms_spec (ws := wsX9_pay) B.pre
  have hown : s.vm.findClass RX9 = some m.cls := findClass_of_methodNamed B.named
  have hlocks := B.notSynchronized
  have hin9 : ∀ w ∈ u_ws RX9 TX9 44, w ∈ wsX9_pay := (fun _ h9 => List.mem_cons_of_mem _ ((List.mem_append_right _ h9)))
  have hl := lv_entry ([.ref h0, .int 0, .int a2]) (n := 4) (Nat.le_of_ble_eq_true rfl)
  rw [lg_entry_eq]
  generalize (lg_sl ([.ref h0, .int 0, .int a2]) ++ List.replicate (4 - (lg_sl ([.ref h0, .int 0, .int a2])).length) Slot.unset).toArray = ls at hl ⊢
  have hl : lv_has ls 4 [(0, .ref h0), (1, .int 0), (2, .int a2)] := hl
  refine lv_iconst (v := 0) hx hb dX9_pay_0 (by decide) ?_
  refine lv_istore_n (lv' := [(3, .int 0), (0, .ref h0), (1, .int 0), (2, .int a2)]) hx hb dX9_pay_1 rfl hl (by decide) rfl (fun ls hl => ?_)
  refine lv_iload_n hx hb dX9_pay_2 rfl (lv_at hl 0 rfl) ?_
  refine lv_iconst (v := 4) hx hb dX9_pay_3 (by decide) ?_
  refine lv_icmp_ge (tgt := 65) hx hb dX9_pay_4 (by decide) (fun c_1 => absurd c_1 (by decide)) (fun c_1 => ?_)
  refine lv_iload_n hx hb dX9_pay_7 rfl (lv_at hl 3 rfl) ?_
  refine lv_aload_n hx hb dX9_pay_8 rfl (lv_at hl 1 rfl) ?_
  refine va_get (D := D) (ci := 9) (v := .ref m7) (C := RX9) (T := TX9) (N := 44) hx hb hts hin9 hown hK hP k0 e0 rfl 7 (by decide) (hts (.fieldLink RX9 32 "HoneyHouseModel" "lotSteps" "[I") (List.mem_of_getElem? (i := 1) rfl)) (fun _ h9 => h9) g7 dX9_pay_9 ?_
  refine lv_bipush (v := 8) hx hb dX9_pay_12 (by decide) ?_
  refine lv_iload_n hx hb dX9_pay_14 rfl (lv_at hl 2 rfl) ?_
  refine lv_imul hx hb dX9_pay_15 ?_
  refine tp_i (y := 0) (by decide) ?_
  refine lv_iconst (v := 2) hx hb dX9_pay_16 (by decide) ?_
  refine lv_iload_n hx hb dX9_pay_17 rfl (lv_at hl 0 rfl) ?_
  refine lv_imul hx hb dX9_pay_18 ?_
  refine tp_i (y := 0) (by decide) ?_
  refine lv_iadd hx hb dX9_pay_19 ?_
  refine tp_i (y := 0) (by decide) ?_
  refine va_iald (f := f7) (n := 320) hx hb hK hP k7 t7 e7 u7 (vp_in_iff.mpr (by decide)) dX9_pay_20 ?_
  refine lv_icmp_gt (tgt := 59) hx hb dX9_pay_21 (by decide) (fun c_2 => ?_) (fun c_2 => ?_)
  · refine lv_iinc (v := 1) (lv' := [(3, .int 1), (0, .ref h0), (1, .int 0), (2, .int a2)]) hx hb dX9_pay_59 hl (k := 0) rfl (by decide) (by decide) rfl (fun ls hl => ?_)
    refine lv_goto (tgt := 2) hx hb dX9_pay_62 (by decide) ?_
    refine lv_iload_n hx hb dX9_pay_2 rfl (lv_at hl 0 rfl) ?_
    refine lv_iconst (v := 4) hx hb dX9_pay_3 (by decide) ?_
    refine lv_icmp_ge (tgt := 65) hx hb dX9_pay_4 (by decide) (fun c_3 => absurd c_3 (by decide)) (fun c_3 => ?_)
    refine lv_iload_n hx hb dX9_pay_7 rfl (lv_at hl 3 rfl) ?_
    refine lv_aload_n hx hb dX9_pay_8 rfl (lv_at hl 1 rfl) ?_
    refine va_get (D := D) (ci := 9) (v := .ref m7) (C := RX9) (T := TX9) (N := 44) hx hb hts hin9 hown hK hP k0 e0 rfl 7 (by decide) (hts (.fieldLink RX9 32 "HoneyHouseModel" "lotSteps" "[I") (List.mem_of_getElem? (i := 1) rfl)) (fun _ h9 => h9) g7 dX9_pay_9 ?_
    refine lv_bipush (v := 8) hx hb dX9_pay_12 (by decide) ?_
    refine lv_iload_n hx hb dX9_pay_14 rfl (lv_at hl 2 rfl) ?_
    refine lv_imul hx hb dX9_pay_15 ?_
    refine tp_i (y := 0) (by decide) ?_
    refine lv_iconst (v := 2) hx hb dX9_pay_16 (by decide) ?_
    refine lv_iload_n hx hb dX9_pay_17 rfl (lv_at hl 0 rfl) ?_
    refine lv_imul hx hb dX9_pay_18 ?_
    refine tp_i (y := 2) (by decide) ?_
    refine lv_iadd hx hb dX9_pay_19 ?_
    refine tp_i (y := 2) (by decide) ?_
    refine va_iald (f := f7) (n := 320) hx hb hK hP k7 t7 e7 u7 (vp_in_iff.mpr (by decide)) dX9_pay_20 ?_
    refine lv_icmp_gt (tgt := 59) hx hb dX9_pay_21 (by decide) (fun c_4 => ?_) (fun c_4 => ?_)
    · refine lv_iinc (v := 2) (lv' := [(3, .int 2), (0, .ref h0), (1, .int 0), (2, .int a2)]) hx hb dX9_pay_59 hl (k := 0) rfl (by decide) (by decide) rfl (fun ls hl => ?_)
      refine lv_goto (tgt := 2) hx hb dX9_pay_62 (by decide) ?_
      refine lv_iload_n hx hb dX9_pay_2 rfl (lv_at hl 0 rfl) ?_
      refine lv_iconst (v := 4) hx hb dX9_pay_3 (by decide) ?_
      refine lv_icmp_ge (tgt := 65) hx hb dX9_pay_4 (by decide) (fun c_5 => absurd c_5 (by decide)) (fun c_5 => ?_)
      refine lv_iload_n hx hb dX9_pay_7 rfl (lv_at hl 3 rfl) ?_
      refine lv_aload_n hx hb dX9_pay_8 rfl (lv_at hl 1 rfl) ?_
      refine va_get (D := D) (ci := 9) (v := .ref m7) (C := RX9) (T := TX9) (N := 44) hx hb hts hin9 hown hK hP k0 e0 rfl 7 (by decide) (hts (.fieldLink RX9 32 "HoneyHouseModel" "lotSteps" "[I") (List.mem_of_getElem? (i := 1) rfl)) (fun _ h9 => h9) g7 dX9_pay_9 ?_
      refine lv_bipush (v := 8) hx hb dX9_pay_12 (by decide) ?_
      refine lv_iload_n hx hb dX9_pay_14 rfl (lv_at hl 2 rfl) ?_
      refine lv_imul hx hb dX9_pay_15 ?_
      refine tp_i (y := 0) (by decide) ?_
      refine lv_iconst (v := 2) hx hb dX9_pay_16 (by decide) ?_
      refine lv_iload_n hx hb dX9_pay_17 rfl (lv_at hl 0 rfl) ?_
      refine lv_imul hx hb dX9_pay_18 ?_
      refine tp_i (y := 4) (by decide) ?_
      refine lv_iadd hx hb dX9_pay_19 ?_
      refine tp_i (y := 4) (by decide) ?_
      refine va_iald (f := f7) (n := 320) hx hb hK hP k7 t7 e7 u7 (vp_in_iff.mpr (by decide)) dX9_pay_20 ?_
      refine lv_icmp_gt (tgt := 59) hx hb dX9_pay_21 (by decide) (fun c_6 => ?_) (fun c_6 => ?_)
      · refine lv_iinc (v := 3) (lv' := [(3, .int 3), (0, .ref h0), (1, .int 0), (2, .int a2)]) hx hb dX9_pay_59 hl (k := 0) rfl (by decide) (by decide) rfl (fun ls hl => ?_)
        refine lv_goto (tgt := 2) hx hb dX9_pay_62 (by decide) ?_
        refine lv_iload_n hx hb dX9_pay_2 rfl (lv_at hl 0 rfl) ?_
        refine lv_iconst (v := 4) hx hb dX9_pay_3 (by decide) ?_
        refine lv_icmp_ge (tgt := 65) hx hb dX9_pay_4 (by decide) (fun c_7 => absurd c_7 (by decide)) (fun c_7 => ?_)
        refine lv_iload_n hx hb dX9_pay_7 rfl (lv_at hl 3 rfl) ?_
        refine lv_aload_n hx hb dX9_pay_8 rfl (lv_at hl 1 rfl) ?_
        refine va_get (D := D) (ci := 9) (v := .ref m7) (C := RX9) (T := TX9) (N := 44) hx hb hts hin9 hown hK hP k0 e0 rfl 7 (by decide) (hts (.fieldLink RX9 32 "HoneyHouseModel" "lotSteps" "[I") (List.mem_of_getElem? (i := 1) rfl)) (fun _ h9 => h9) g7 dX9_pay_9 ?_
        refine lv_bipush (v := 8) hx hb dX9_pay_12 (by decide) ?_
        refine lv_iload_n hx hb dX9_pay_14 rfl (lv_at hl 2 rfl) ?_
        refine lv_imul hx hb dX9_pay_15 ?_
        refine tp_i (y := 0) (by decide) ?_
        refine lv_iconst (v := 2) hx hb dX9_pay_16 (by decide) ?_
        refine lv_iload_n hx hb dX9_pay_17 rfl (lv_at hl 0 rfl) ?_
        refine lv_imul hx hb dX9_pay_18 ?_
        refine tp_i (y := 6) (by decide) ?_
        refine lv_iadd hx hb dX9_pay_19 ?_
        refine tp_i (y := 6) (by decide) ?_
        refine va_iald (f := f7) (n := 320) hx hb hK hP k7 t7 e7 u7 (vp_in_iff.mpr (by decide)) dX9_pay_20 ?_
        refine lv_icmp_gt (tgt := 59) hx hb dX9_pay_21 (by decide) (fun c_8 => ?_) (fun c_8 => ?_)
        · refine lv_iinc (v := 4) (lv' := [(3, .int 4), (0, .ref h0), (1, .int 0), (2, .int a2)]) hx hb dX9_pay_59 hl (k := 0) rfl (by decide) (by decide) rfl (fun ls hl => ?_)
          refine lv_goto (tgt := 2) hx hb dX9_pay_62 (by decide) ?_
          refine lv_iload_n hx hb dX9_pay_2 rfl (lv_at hl 0 rfl) ?_
          refine lv_iconst (v := 4) hx hb dX9_pay_3 (by decide) ?_
          refine lv_icmp_ge (tgt := 65) hx hb dX9_pay_4 (by decide) (fun c_9 => ?_) (fun c_9 => absurd (by decide) c_9)
          refine lv_iconst (v := 0) hx hb dX9_pay_65 (by decide) ?_
          exact W.iret (v := 0) hx hb hr (fun t ht hW => ⟨0, rfl, trivial, ht⟩) (fun _ h9 => by cases h9) dX9_pay_66
        refine lv_aload_n hx hb dX9_pay_24 rfl (lv_at hl 1 rfl) ?_
        refine va_get (D := D) (ci := 9) (v := .ref m4) (C := RX9) (T := TX9) (N := 44) hx hb hts hin9 hown hK hP k0 e0 rfl 4 (by decide) (hts (.fieldLink RX9 23 "HoneyHouseModel" "lot" "[I") (List.mem_of_getElem? (i := 2) rfl)) (fun _ h9 => h9) g4 dX9_pay_25 ?_
        refine lv_bipush (v := 7) hx hb dX9_pay_28 (by decide) ?_
        refine lv_iload_n hx hb dX9_pay_30 rfl (lv_at hl 2 rfl) ?_
        refine lv_imul hx hb dX9_pay_31 ?_
        refine tp_i (y := 0) (by decide) ?_
        refine lv_iconst (v := 1) hx hb dX9_pay_32 (by decide) ?_
        refine lv_iadd hx hb dX9_pay_33 ?_
        refine tp_i (y := 1) (by decide) ?_
        refine va_iald (f := f4) (n := 280) hx hb hK hP k4 t4 e4 u4 (vp_in_iff.mpr (by decide)) dX9_pay_34 ?_
        refine lv_i2l hx hb dX9_pay_35 rfl ?_
        refine lv_aload_n hx hb dX9_pay_36 rfl (lv_at hl 1 rfl) ?_
        refine va_get (D := D) (ci := 9) (v := .ref m7) (C := RX9) (T := TX9) (N := 44) hx hb hts hin9 hown hK hP k0 e0 rfl 7 (by decide) (hts (.fieldLink RX9 32 "HoneyHouseModel" "lotSteps" "[I") (List.mem_of_getElem? (i := 1) rfl)) (fun _ h9 => h9) g7 dX9_pay_37 ?_
        refine lv_bipush (v := 8) hx hb dX9_pay_40 (by decide) ?_
        refine lv_iload_n hx hb dX9_pay_42 rfl (lv_at hl 2 rfl) ?_
        refine lv_imul hx hb dX9_pay_43 ?_
        refine tp_i (y := 0) (by decide) ?_
        refine lv_iconst (v := 2) hx hb dX9_pay_44 (by decide) ?_
        refine lv_iload_n hx hb dX9_pay_45 rfl (lv_at hl 0 rfl) ?_
        refine lv_imul hx hb dX9_pay_46 ?_
        refine tp_i (y := 6) (by decide) ?_
        refine lv_iadd hx hb dX9_pay_47 ?_
        refine tp_i (y := 6) (by decide) ?_
        refine lv_iconst (v := 1) hx hb dX9_pay_48 (by decide) ?_
        refine lv_iadd hx hb dX9_pay_49 ?_
        refine tp_i (y := 7) (by decide) ?_
        refine va_iald (f := f7) (n := 320) hx hb hK hP k7 t7 e7 u7 (vp_in_iff.mpr (by decide)) dX9_pay_50 ?_
        refine lv_i2l hx hb dX9_pay_51 rfl ?_
        refine lv_lmul hx hb dX9_pay_52 ?_
        refine lv_ldc2 hx hb hown (hts (.constantLong RX9 149 (1000)) (List.mem_of_getElem? (i := 3) rfl)) dX9_pay_53 ?_
        refine lv_ldiv hx hb dX9_pay_56 (by decide) ?_
        refine lv_l2i hx hb dX9_pay_57 rfl ?_
        exact W.iret (v := ((((f4 (1 : Int32).toNatClampNeg).toInt64) * ((f7 (7 : Int32).toNatClampNeg).toInt64)) / 1000).toInt32) hx hb hr (fun t ht hW => ⟨((((f4 (1 : Int32).toNatClampNeg).toInt64) * ((f7 (7 : Int32).toNatClampNeg).toInt64)) / 1000).toInt32, rfl, trivial, ht⟩) (fun _ h9 => by cases h9) dX9_pay_58
      refine lv_aload_n hx hb dX9_pay_24 rfl (lv_at hl 1 rfl) ?_
      refine va_get (D := D) (ci := 9) (v := .ref m4) (C := RX9) (T := TX9) (N := 44) hx hb hts hin9 hown hK hP k0 e0 rfl 4 (by decide) (hts (.fieldLink RX9 23 "HoneyHouseModel" "lot" "[I") (List.mem_of_getElem? (i := 2) rfl)) (fun _ h9 => h9) g4 dX9_pay_25 ?_
      refine lv_bipush (v := 7) hx hb dX9_pay_28 (by decide) ?_
      refine lv_iload_n hx hb dX9_pay_30 rfl (lv_at hl 2 rfl) ?_
      refine lv_imul hx hb dX9_pay_31 ?_
      refine tp_i (y := 0) (by decide) ?_
      refine lv_iconst (v := 1) hx hb dX9_pay_32 (by decide) ?_
      refine lv_iadd hx hb dX9_pay_33 ?_
      refine tp_i (y := 1) (by decide) ?_
      refine va_iald (f := f4) (n := 280) hx hb hK hP k4 t4 e4 u4 (vp_in_iff.mpr (by decide)) dX9_pay_34 ?_
      refine lv_i2l hx hb dX9_pay_35 rfl ?_
      refine lv_aload_n hx hb dX9_pay_36 rfl (lv_at hl 1 rfl) ?_
      refine va_get (D := D) (ci := 9) (v := .ref m7) (C := RX9) (T := TX9) (N := 44) hx hb hts hin9 hown hK hP k0 e0 rfl 7 (by decide) (hts (.fieldLink RX9 32 "HoneyHouseModel" "lotSteps" "[I") (List.mem_of_getElem? (i := 1) rfl)) (fun _ h9 => h9) g7 dX9_pay_37 ?_
      refine lv_bipush (v := 8) hx hb dX9_pay_40 (by decide) ?_
      refine lv_iload_n hx hb dX9_pay_42 rfl (lv_at hl 2 rfl) ?_
      refine lv_imul hx hb dX9_pay_43 ?_
      refine tp_i (y := 0) (by decide) ?_
      refine lv_iconst (v := 2) hx hb dX9_pay_44 (by decide) ?_
      refine lv_iload_n hx hb dX9_pay_45 rfl (lv_at hl 0 rfl) ?_
      refine lv_imul hx hb dX9_pay_46 ?_
      refine tp_i (y := 4) (by decide) ?_
      refine lv_iadd hx hb dX9_pay_47 ?_
      refine tp_i (y := 4) (by decide) ?_
      refine lv_iconst (v := 1) hx hb dX9_pay_48 (by decide) ?_
      refine lv_iadd hx hb dX9_pay_49 ?_
      refine tp_i (y := 5) (by decide) ?_
      refine va_iald (f := f7) (n := 320) hx hb hK hP k7 t7 e7 u7 (vp_in_iff.mpr (by decide)) dX9_pay_50 ?_
      refine lv_i2l hx hb dX9_pay_51 rfl ?_
      refine lv_lmul hx hb dX9_pay_52 ?_
      refine lv_ldc2 hx hb hown (hts (.constantLong RX9 149 (1000)) (List.mem_of_getElem? (i := 3) rfl)) dX9_pay_53 ?_
      refine lv_ldiv hx hb dX9_pay_56 (by decide) ?_
      refine lv_l2i hx hb dX9_pay_57 rfl ?_
      exact W.iret (v := ((((f4 (1 : Int32).toNatClampNeg).toInt64) * ((f7 (5 : Int32).toNatClampNeg).toInt64)) / 1000).toInt32) hx hb hr (fun t ht hW => ⟨((((f4 (1 : Int32).toNatClampNeg).toInt64) * ((f7 (5 : Int32).toNatClampNeg).toInt64)) / 1000).toInt32, rfl, trivial, ht⟩) (fun _ h9 => by cases h9) dX9_pay_58
    refine lv_aload_n hx hb dX9_pay_24 rfl (lv_at hl 1 rfl) ?_
    refine va_get (D := D) (ci := 9) (v := .ref m4) (C := RX9) (T := TX9) (N := 44) hx hb hts hin9 hown hK hP k0 e0 rfl 4 (by decide) (hts (.fieldLink RX9 23 "HoneyHouseModel" "lot" "[I") (List.mem_of_getElem? (i := 2) rfl)) (fun _ h9 => h9) g4 dX9_pay_25 ?_
    refine lv_bipush (v := 7) hx hb dX9_pay_28 (by decide) ?_
    refine lv_iload_n hx hb dX9_pay_30 rfl (lv_at hl 2 rfl) ?_
    refine lv_imul hx hb dX9_pay_31 ?_
    refine tp_i (y := 0) (by decide) ?_
    refine lv_iconst (v := 1) hx hb dX9_pay_32 (by decide) ?_
    refine lv_iadd hx hb dX9_pay_33 ?_
    refine tp_i (y := 1) (by decide) ?_
    refine va_iald (f := f4) (n := 280) hx hb hK hP k4 t4 e4 u4 (vp_in_iff.mpr (by decide)) dX9_pay_34 ?_
    refine lv_i2l hx hb dX9_pay_35 rfl ?_
    refine lv_aload_n hx hb dX9_pay_36 rfl (lv_at hl 1 rfl) ?_
    refine va_get (D := D) (ci := 9) (v := .ref m7) (C := RX9) (T := TX9) (N := 44) hx hb hts hin9 hown hK hP k0 e0 rfl 7 (by decide) (hts (.fieldLink RX9 32 "HoneyHouseModel" "lotSteps" "[I") (List.mem_of_getElem? (i := 1) rfl)) (fun _ h9 => h9) g7 dX9_pay_37 ?_
    refine lv_bipush (v := 8) hx hb dX9_pay_40 (by decide) ?_
    refine lv_iload_n hx hb dX9_pay_42 rfl (lv_at hl 2 rfl) ?_
    refine lv_imul hx hb dX9_pay_43 ?_
    refine tp_i (y := 0) (by decide) ?_
    refine lv_iconst (v := 2) hx hb dX9_pay_44 (by decide) ?_
    refine lv_iload_n hx hb dX9_pay_45 rfl (lv_at hl 0 rfl) ?_
    refine lv_imul hx hb dX9_pay_46 ?_
    refine tp_i (y := 2) (by decide) ?_
    refine lv_iadd hx hb dX9_pay_47 ?_
    refine tp_i (y := 2) (by decide) ?_
    refine lv_iconst (v := 1) hx hb dX9_pay_48 (by decide) ?_
    refine lv_iadd hx hb dX9_pay_49 ?_
    refine tp_i (y := 3) (by decide) ?_
    refine va_iald (f := f7) (n := 320) hx hb hK hP k7 t7 e7 u7 (vp_in_iff.mpr (by decide)) dX9_pay_50 ?_
    refine lv_i2l hx hb dX9_pay_51 rfl ?_
    refine lv_lmul hx hb dX9_pay_52 ?_
    refine lv_ldc2 hx hb hown (hts (.constantLong RX9 149 (1000)) (List.mem_of_getElem? (i := 3) rfl)) dX9_pay_53 ?_
    refine lv_ldiv hx hb dX9_pay_56 (by decide) ?_
    refine lv_l2i hx hb dX9_pay_57 rfl ?_
    exact W.iret (v := ((((f4 (1 : Int32).toNatClampNeg).toInt64) * ((f7 (3 : Int32).toNatClampNeg).toInt64)) / 1000).toInt32) hx hb hr (fun t ht hW => ⟨((((f4 (1 : Int32).toNatClampNeg).toInt64) * ((f7 (3 : Int32).toNatClampNeg).toInt64)) / 1000).toInt32, rfl, trivial, ht⟩) (fun _ h9 => by cases h9) dX9_pay_58
  refine lv_aload_n hx hb dX9_pay_24 rfl (lv_at hl 1 rfl) ?_
  refine va_get (D := D) (ci := 9) (v := .ref m4) (C := RX9) (T := TX9) (N := 44) hx hb hts hin9 hown hK hP k0 e0 rfl 4 (by decide) (hts (.fieldLink RX9 23 "HoneyHouseModel" "lot" "[I") (List.mem_of_getElem? (i := 2) rfl)) (fun _ h9 => h9) g4 dX9_pay_25 ?_
  refine lv_bipush (v := 7) hx hb dX9_pay_28 (by decide) ?_
  refine lv_iload_n hx hb dX9_pay_30 rfl (lv_at hl 2 rfl) ?_
  refine lv_imul hx hb dX9_pay_31 ?_
  refine tp_i (y := 0) (by decide) ?_
  refine lv_iconst (v := 1) hx hb dX9_pay_32 (by decide) ?_
  refine lv_iadd hx hb dX9_pay_33 ?_
  refine tp_i (y := 1) (by decide) ?_
  refine va_iald (f := f4) (n := 280) hx hb hK hP k4 t4 e4 u4 (vp_in_iff.mpr (by decide)) dX9_pay_34 ?_
  refine lv_i2l hx hb dX9_pay_35 rfl ?_
  refine lv_aload_n hx hb dX9_pay_36 rfl (lv_at hl 1 rfl) ?_
  refine va_get (D := D) (ci := 9) (v := .ref m7) (C := RX9) (T := TX9) (N := 44) hx hb hts hin9 hown hK hP k0 e0 rfl 7 (by decide) (hts (.fieldLink RX9 32 "HoneyHouseModel" "lotSteps" "[I") (List.mem_of_getElem? (i := 1) rfl)) (fun _ h9 => h9) g7 dX9_pay_37 ?_
  refine lv_bipush (v := 8) hx hb dX9_pay_40 (by decide) ?_
  refine lv_iload_n hx hb dX9_pay_42 rfl (lv_at hl 2 rfl) ?_
  refine lv_imul hx hb dX9_pay_43 ?_
  refine tp_i (y := 0) (by decide) ?_
  refine lv_iconst (v := 2) hx hb dX9_pay_44 (by decide) ?_
  refine lv_iload_n hx hb dX9_pay_45 rfl (lv_at hl 0 rfl) ?_
  refine lv_imul hx hb dX9_pay_46 ?_
  refine tp_i (y := 0) (by decide) ?_
  refine lv_iadd hx hb dX9_pay_47 ?_
  refine tp_i (y := 0) (by decide) ?_
  refine lv_iconst (v := 1) hx hb dX9_pay_48 (by decide) ?_
  refine lv_iadd hx hb dX9_pay_49 ?_
  refine tp_i (y := 1) (by decide) ?_
  refine va_iald (f := f7) (n := 320) hx hb hK hP k7 t7 e7 u7 (vp_in_iff.mpr (by decide)) dX9_pay_50 ?_
  refine lv_i2l hx hb dX9_pay_51 rfl ?_
  refine lv_lmul hx hb dX9_pay_52 ?_
  refine lv_ldc2 hx hb hown (hts (.constantLong RX9 149 (1000)) (List.mem_of_getElem? (i := 3) rfl)) dX9_pay_53 ?_
  refine lv_ldiv hx hb dX9_pay_56 (by decide) ?_
  refine lv_l2i hx hb dX9_pay_57 rfl ?_
  exact W.iret (v := ((((f4 (1 : Int32).toNatClampNeg).toInt64) * ((f7 (1 : Int32).toNatClampNeg).toInt64)) / 1000).toInt32) hx hb hr (fun t ht hW => ⟨((((f4 (1 : Int32).toNatClampNeg).toInt64) * ((f7 (1 : Int32).toNatClampNeg).toInt64)) / 1000).toInt32, rfl, trivial, ht⟩) (fun _ h9 => by cases h9) dX9_pay_58
set_option maxHeartbeats 4000000 in
set_option maxRecDepth 100000 in
theorem q_X9_lot (l : Launch) (D : va_G) (h0 m0 m4 m5 m6 m7 m8 m9 m10 m11 m12 m15 m16 m17 m18 m19 m20 m23 m24 m28 m32 m33 m34 m36 m37 m38 m39 m40 m41 m42 : Nat) (c4 c5 c6 c7 c8 : ClassId) (a1 a2 a3 a4 a5 : Int32) (sz : Nat)  : Met l yX9_lot wsX9_lot ({ frames := 1, cells := 0, slots := 0, locals := 23 }) (va_Pc [.ref h0, .int a1, .int a2, .int a3, .int a4, .int a5] (fun U => U.heap.size = sz ∧ va_P D vwCl [(h0, .inr (9, [.ref m0, .int 0, .int 0, .int 0, .ref m4, .ref m5, .ref m6, .ref m7, .ref m8, .ref m9, .ref m10, .ref m11, .ref m12, .int 0, .int 0, .ref m15, .ref m16, .ref m17, .ref m18, .ref m19, .ref m20, .int 0, .int (-1), .ref m23, .ref m24, .int 0, .int 0, .int 0, .ref m28, .int 0, .int 0, .int 0, .ref m32, .ref m33, .ref m34, .int 0, .ref m36, .ref m37, .ref m38, .ref m39, .ref m40, .ref m41, .ref m42, .int 0])), (m4, .inl (c4, 280, .inl (fun _ => 0))), (m5, .inl (c5, 200, .inl (fun _ => 0))), (m6, .inl (c6, 200, .inl (fun _ => 0))), (m7, .inl (c7, 320, .inl (fun _ => 0))), (m8, .inl (c8, 8, .inl (fun _ => 0)))] U.heap ∧ va_K D vwCl [(c4, .int), (c5, .int), (c6, .int), (c7, .int), (c8, .int)] U ∧ va_D (fun _ => True) [(h0, .inr (9, [.ref m0, .int 0, .int 0, .int 0, .ref m4, .ref m5, .ref m6, .ref m7, .ref m8, .ref m9, .ref m10, .ref m11, .ref m12, .int 0, .int 0, .ref m15, .ref m16, .ref m17, .ref m18, .ref m19, .ref m20, .int 0, .int (-1), .ref m23, .ref m24, .int 0, .int 0, .int 0, .ref m28, .int 0, .int 0, .int 0, .ref m32, .ref m33, .ref m34, .int 0, .ref m36, .ref m37, .ref m38, .ref m39, .ref m40, .ref m41, .ref m42, .int 0])), (m4, .inl (c4, 280, .inl (fun _ => 0))), (m5, .inl (c5, 200, .inl (fun _ => 0))), (m6, .inl (c6, 200, .inl (fun _ => 0))), (m7, .inl (c7, 320, .inl (fun _ => 0))), (m8, .inl (c8, 8, .inl (fun _ => 0)))])) (va_Qi (fun (r : Int32) (_ : Unit) => r = if (a1 < 0 ∨ 9 < a1) ∨ (a2 < 1 ∨ 200000 < a2) ∨ (a3 < 100 ∨ 300 < a3) ∨ (a4 < 0 ∨ 140 < a4) ∨ (a5 < 0 ∨ 3 < a5) then (-1) else 0) (fun (_ : Unit) (t : State) => va_P D vwCl [] t.heap ∧ va_K D vwCl [] t ∧ va_D (va_A [(h0, .inr (9, [.ref m0, .int 0, .int 0, .int 0, .ref m4, .ref m5, .ref m6, .ref m7, .ref m8, .ref m9, .ref m10, .ref m11, .ref m12, .int 0, .int 0, .ref m15, .ref m16, .ref m17, .ref m18, .ref m19, .ref m20, .int 0, .int (-1), .ref m23, .ref m24, .int 0, .int 0, .int 0, .ref m28, .int 0, .int 0, .int 0, .ref m32, .ref m33, .ref m34, .int 0, .ref m36, .ref m37, .ref m38, .ref m39, .ref m40, .ref m41, .ref m42, .int 0])), (m4, .inl (c4, 280, .inl (fun _ => 0))), (m5, .inl (c5, 200, .inl (fun _ => 0))), (m6, .inl (c6, 200, .inl (fun _ => 0))), (m7, .inl (c7, 320, .inl (fun _ => 0))), (m8, .inl (c8, 8, .inl (fun _ => 0)))] sz) []) (va_A [(h0, .inr (9, [.ref m0, .int 0, .int 0, .int 0, .ref m4, .ref m5, .ref m6, .ref m7, .ref m8, .ref m9, .ref m10, .ref m11, .ref m12, .int 0, .int 0, .ref m15, .ref m16, .ref m17, .ref m18, .ref m19, .ref m20, .int 0, .int (-1), .ref m23, .ref m24, .int 0, .int 0, .int 0, .ref m28, .int 0, .int 0, .int 0, .ref m32, .ref m33, .ref m34, .int 0, .ref m36, .ref m37, .ref m38, .ref m39, .ref m40, .ref m41, .ref m42, .int 0])), (m4, .inl (c4, 280, .inl (fun _ => 0))), (m5, .inl (c5, 200, .inl (fun _ => 0))), (m6, .inl (c6, 200, .inl (fun _ => 0))), (m7, .inl (c7, 320, .inl (fun _ => 0))), (m8, .inl (c8, 8, .inl (fun _ => 0)))] sz)) 0 0 (va_A [(h0, .inr (9, [.ref m0, .int 0, .int 0, .int 0, .ref m4, .ref m5, .ref m6, .ref m7, .ref m8, .ref m9, .ref m10, .ref m11, .ref m12, .int 0, .int 0, .ref m15, .ref m16, .ref m17, .ref m18, .ref m19, .ref m20, .int 0, .int (-1), .ref m23, .ref m24, .int 0, .int 0, .int 0, .ref m28, .int 0, .int 0, .int 0, .ref m32, .ref m33, .ref m34, .int 0, .ref m36, .ref m37, .ref m38, .ref m39, .ref m40, .ref m41, .ref m42, .int 0])), (m4, .inl (c4, 280, .inl (fun _ => 0))), (m5, .inl (c5, 200, .inl (fun _ => 0))), (m6, .inl (c6, 200, .inl (fun _ => 0))), (m7, .inl (c7, 320, .inl (fun _ => 0))), (m8, .inl (c8, 8, .inl (fun _ => 0)))] sz) := by
  refine Met.ofW (cc := cX9_lot) (maxL := 8) (ret := (some .int)) (by decide) rfl ?_
  intro p e s m args below meth c s₁ B hml hv
  obtain ⟨rfl, hsz, hP, hK, hD0⟩ := hv
  have hx := B.exec
  have hb := B.bytes
  have hr := B.returns
  have hts := atoms_spec (ws := wsX9_lot) B.pre
  have hown : s.vm.findClass RX9 = some m.cls := findClass_of_methodNamed B.named
  have hlocks := B.notSynchronized
  subst hsz
  have hD := hD0.self (sz := s.heap.size)
  generalize hAe : va_A [(h0, .inr (9, [.ref m0, .int 0, .int 0, .int 0, .ref m4, .ref m5, .ref m6, .ref m7, .ref m8, .ref m9, .ref m10, .ref m11, .ref m12, .int 0, .int 0, .ref m15, .ref m16, .ref m17, .ref m18, .ref m19, .ref m20, .int 0, .int (-1), .ref m23, .ref m24, .int 0, .int 0, .int 0, .ref m28, .int 0, .int 0, .int 0, .ref m32, .ref m33, .ref m34, .int 0, .ref m36, .ref m37, .ref m38, .ref m39, .ref m40, .ref m41, .ref m42, .int 0])), (m4, .inl (c4, 280, .inl (fun _ => 0))), (m5, .inl (c5, 200, .inl (fun _ => 0))), (m6, .inl (c6, 200, .inl (fun _ => 0))), (m7, .inl (c7, 320, .inl (fun _ => 0))), (m8, .inl (c8, 8, .inl (fun _ => 0)))] s.heap.size = A at hD ⊢
  have hA : ∀ q : Nat, s.heap.size ≤ q → A q := fun q h => by rw [← hAe]; exact Or.inr h
  have hS : va_S A s.heap s.heap [] := va_S.rf
  have hP : va_P D vwCl [(h0, .inr (9, [.ref m0, .int 0, .int 0, .int 0, .ref m4, .ref m5, .ref m6, .ref m7, .ref m8, .ref m9, .ref m10, .ref m11, .ref m12, .int 0, .int 0, .ref m15, .ref m16, .ref m17, .ref m18, .ref m19, .ref m20, .int 0, .int (-1), .ref m23, .ref m24, .int 0, .int 0, .int 0, .ref m28, .int 0, .int 0, .int 0, .ref m32, .ref m33, .ref m34, .int 0, .ref m36, .ref m37, .ref m38, .ref m39, .ref m40, .ref m41, .ref m42, .int 0])), (m4, .inl (c4, 280, .inl (fun _ => 0))), (m5, .inl (c5, 200, .inl (fun _ => 0))), (m6, .inl (c6, 200, .inl (fun _ => 0))), (m7, .inl (c7, 320, .inl (fun _ => 0))), (m8, .inl (c8, 8, .inl (fun _ => 0)))] s.heap := hP
  have hin9 : ∀ w ∈ u_ws RX9 TX9 44, w ∈ wsX9_lot := (fun _ h9 => List.mem_cons_of_mem _ ((List.mem_append_right _ h9)))
  have hl := lv_entry ([.ref h0, .int a1, .int a2, .int a3, .int a4, .int a5]) (n := 8) (Nat.le_of_ble_eq_true rfl)
  rw [lg_entry_eq]
  generalize (lg_sl ([.ref h0, .int a1, .int a2, .int a3, .int a4, .int a5]) ++ List.replicate (8 - (lg_sl ([.ref h0, .int a1, .int a2, .int a3, .int a4, .int a5])).length) Slot.unset).toArray = ls at hl ⊢
  have hl : lv_has ls 8 [(0, .ref h0), (1, .int a1), (2, .int a2), (3, .int a3), (4, .int a4), (5, .int a5)] := hl
  refine lv_iload_n hx hb dX9_lot_0 rfl (lv_at hl 1 rfl) ?_
  refine lv_iconst (v := 0) hx hb dX9_lot_1 (by decide) ?_
  refine lv_bipush (v := 9) hx hb dX9_lot_2 (by decide) ?_
  refine vp_callSi (W.runS (As := [.int a1, .int 0, .int 9]) (rest := []) ⟨hx, hb, hml, hown, hts⟩ (s_X9_is l a1 0 9) (va_cwS 3 hts gX9_lot_X9_is rfl rfl rfl (by decide +kernel) ⟨Nat.le_of_ble_eq_true rfl, Nat.le_of_ble_eq_true rfl⟩) ⟨fun a U g mk q => q, fun U hU hW => ⟨rfl, trivial⟩⟩ rfl rfl hl.1 rfl (lv_room (Nat.le_of_ble_eq_true rfl)) dX9_lot_4 ⟨Nat.le_of_ble_eq_true rfl, Nat.le_of_ble_eq_true rfl⟩) (fun r_1 k_2 => ?_)
  rcases k_2 with ⟨rfl, a_3o⟩ | ⟨rfl, a_3, b_4⟩
  · refine lv_if_eq (tgt := 63) hx hb dX9_lot_7 (by decide) (fun c_5 => ?_) (fun c_5 => absurd (by decide) c_5)
    refine lv_iconst (v := (-1)) hx hb dX9_lot_63 (by decide) ?_
    have hP9 := hP.sub (ws' := []) [] rfl
    have hD9 := hD.sub (ws' := []) [] (by decide) rfl
    have hK9 := hK.sub (tys' := []) [] rfl
    refine W.widen (k := 0) (n := 0) (by omega) (by omega) ?_
    exact W.iret (v := (-1)) hx hb hr (fun t ht hW => ⟨⟨(-1), (), rfl, (by rcases a_3o with a_3o | a_3o <;> simp_all), by rw [ht]; exact hP9, va_K.moved hW.alike hK9, hD9⟩, hS.F ht⟩) hS.2.2 dX9_lot_64
  refine lv_if_eq (tgt := 63) hx hb dX9_lot_7 (by decide) (fun c_6 => absurd c_6 (by decide)) (fun c_6 => ?_)
  refine lv_iload_n hx hb dX9_lot_10 rfl (lv_at hl 2 rfl) ?_
  refine lv_iconst (v := 1) hx hb dX9_lot_11 (by decide) ?_
  refine lv_ldc hx hb hown (hts (.constant RX9 155 (200000)) (List.mem_of_getElem? (i := 1) rfl)) dX9_lot_12 ?_
  refine vp_callSi (W.runS (As := [.int a2, .int 1, .int 200000]) (rest := []) ⟨hx, hb, hml, hown, hts⟩ (s_X9_is l a2 1 200000) (va_cwS 3 hts gX9_lot_X9_is rfl rfl rfl (by decide +kernel) ⟨Nat.le_of_ble_eq_true rfl, Nat.le_of_ble_eq_true rfl⟩) ⟨fun a U g mk q => q, fun U hU hW => ⟨rfl, trivial⟩⟩ rfl rfl hl.1 rfl (lv_room (Nat.le_of_ble_eq_true rfl)) dX9_lot_14 ⟨Nat.le_of_ble_eq_true rfl, Nat.le_of_ble_eq_true rfl⟩) (fun r_7 k_8 => ?_)
  rcases k_8 with ⟨rfl, a_9o⟩ | ⟨rfl, a_9, b_10⟩
  · refine lv_if_eq (tgt := 63) hx hb dX9_lot_17 (by decide) (fun c_11 => ?_) (fun c_11 => absurd (by decide) c_11)
    refine lv_iconst (v := (-1)) hx hb dX9_lot_63 (by decide) ?_
    have hP9 := hP.sub (ws' := []) [] rfl
    have hD9 := hD.sub (ws' := []) [] (by decide) rfl
    have hK9 := hK.sub (tys' := []) [] rfl
    refine W.widen (k := 0) (n := 0) (by omega) (by omega) ?_
    exact W.iret (v := (-1)) hx hb hr (fun t ht hW => ⟨⟨(-1), (), rfl, (by rcases a_9o with a_9o | a_9o <;> simp_all), by rw [ht]; exact hP9, va_K.moved hW.alike hK9, hD9⟩, hS.F ht⟩) hS.2.2 dX9_lot_64
  refine lv_if_eq (tgt := 63) hx hb dX9_lot_17 (by decide) (fun c_12 => absurd c_12 (by decide)) (fun c_12 => ?_)
  refine lv_iload_n hx hb dX9_lot_20 rfl (lv_at hl 3 rfl) ?_
  refine lv_bipush (v := 100) hx hb dX9_lot_21 (by decide) ?_
  refine lv_sipush (v := 300) hx hb dX9_lot_23 (by decide) ?_
  refine vp_callSi (W.runS (As := [.int a3, .int 100, .int 300]) (rest := []) ⟨hx, hb, hml, hown, hts⟩ (s_X9_is l a3 100 300) (va_cwS 3 hts gX9_lot_X9_is rfl rfl rfl (by decide +kernel) ⟨Nat.le_of_ble_eq_true rfl, Nat.le_of_ble_eq_true rfl⟩) ⟨fun a U g mk q => q, fun U hU hW => ⟨rfl, trivial⟩⟩ rfl rfl hl.1 rfl (lv_room (Nat.le_of_ble_eq_true rfl)) dX9_lot_26 ⟨Nat.le_of_ble_eq_true rfl, Nat.le_of_ble_eq_true rfl⟩) (fun r_13 k_14 => ?_)
  rcases k_14 with ⟨rfl, a_15o⟩ | ⟨rfl, a_15, b_16⟩
  · refine lv_if_eq (tgt := 63) hx hb dX9_lot_29 (by decide) (fun c_17 => ?_) (fun c_17 => absurd (by decide) c_17)
    refine lv_iconst (v := (-1)) hx hb dX9_lot_63 (by decide) ?_
    have hP9 := hP.sub (ws' := []) [] rfl
    have hD9 := hD.sub (ws' := []) [] (by decide) rfl
    have hK9 := hK.sub (tys' := []) [] rfl
    refine W.widen (k := 0) (n := 0) (by omega) (by omega) ?_
    exact W.iret (v := (-1)) hx hb hr (fun t ht hW => ⟨⟨(-1), (), rfl, (by rcases a_15o with a_15o | a_15o <;> simp_all), by rw [ht]; exact hP9, va_K.moved hW.alike hK9, hD9⟩, hS.F ht⟩) hS.2.2 dX9_lot_64
  refine lv_if_eq (tgt := 63) hx hb dX9_lot_29 (by decide) (fun c_18 => absurd c_18 (by decide)) (fun c_18 => ?_)
  refine lv_iload hx hb dX9_lot_32 (lv_at hl 4 rfl) ?_
  refine lv_iconst (v := 0) hx hb dX9_lot_34 (by decide) ?_
  refine lv_sipush (v := 140) hx hb dX9_lot_35 (by decide) ?_
  refine vp_callSi (W.runS (As := [.int a4, .int 0, .int 140]) (rest := []) ⟨hx, hb, hml, hown, hts⟩ (s_X9_is l a4 0 140) (va_cwS 3 hts gX9_lot_X9_is rfl rfl rfl (by decide +kernel) ⟨Nat.le_of_ble_eq_true rfl, Nat.le_of_ble_eq_true rfl⟩) ⟨fun a U g mk q => q, fun U hU hW => ⟨rfl, trivial⟩⟩ rfl rfl hl.1 rfl (lv_room (Nat.le_of_ble_eq_true rfl)) dX9_lot_38 ⟨Nat.le_of_ble_eq_true rfl, Nat.le_of_ble_eq_true rfl⟩) (fun r_19 k_20 => ?_)
  rcases k_20 with ⟨rfl, a_21o⟩ | ⟨rfl, a_21, b_22⟩
  · refine lv_if_eq (tgt := 63) hx hb dX9_lot_41 (by decide) (fun c_23 => ?_) (fun c_23 => absurd (by decide) c_23)
    refine lv_iconst (v := (-1)) hx hb dX9_lot_63 (by decide) ?_
    have hP9 := hP.sub (ws' := []) [] rfl
    have hD9 := hD.sub (ws' := []) [] (by decide) rfl
    have hK9 := hK.sub (tys' := []) [] rfl
    refine W.widen (k := 0) (n := 0) (by omega) (by omega) ?_
    exact W.iret (v := (-1)) hx hb hr (fun t ht hW => ⟨⟨(-1), (), rfl, (by rcases a_21o with a_21o | a_21o <;> simp_all), by rw [ht]; exact hP9, va_K.moved hW.alike hK9, hD9⟩, hS.F ht⟩) hS.2.2 dX9_lot_64
  refine lv_if_eq (tgt := 63) hx hb dX9_lot_41 (by decide) (fun c_24 => absurd c_24 (by decide)) (fun c_24 => ?_)
  refine lv_iload hx hb dX9_lot_44 (lv_at hl 5 rfl) ?_
  refine lv_iconst (v := 0) hx hb dX9_lot_46 (by decide) ?_
  refine lv_iconst (v := 3) hx hb dX9_lot_47 (by decide) ?_
  refine vp_callSi (W.runS (As := [.int a5, .int 0, .int 3]) (rest := []) ⟨hx, hb, hml, hown, hts⟩ (s_X9_is l a5 0 3) (va_cwS 3 hts gX9_lot_X9_is rfl rfl rfl (by decide +kernel) ⟨Nat.le_of_ble_eq_true rfl, Nat.le_of_ble_eq_true rfl⟩) ⟨fun a U g mk q => q, fun U hU hW => ⟨rfl, trivial⟩⟩ rfl rfl hl.1 rfl (lv_room (Nat.le_of_ble_eq_true rfl)) dX9_lot_48 ⟨Nat.le_of_ble_eq_true rfl, Nat.le_of_ble_eq_true rfl⟩) (fun r_25 k_26 => ?_)
  rcases k_26 with ⟨rfl, a_27o⟩ | ⟨rfl, a_27, b_28⟩
  · refine lv_if_eq (tgt := 63) hx hb dX9_lot_51 (by decide) (fun c_29 => ?_) (fun c_29 => absurd (by decide) c_29)
    refine lv_iconst (v := (-1)) hx hb dX9_lot_63 (by decide) ?_
    have hP9 := hP.sub (ws' := []) [] rfl
    have hD9 := hD.sub (ws' := []) [] (by decide) rfl
    have hK9 := hK.sub (tys' := []) [] rfl
    refine W.widen (k := 0) (n := 0) (by omega) (by omega) ?_
    exact W.iret (v := (-1)) hx hb hr (fun t ht hW => ⟨⟨(-1), (), rfl, (by rcases a_27o with a_27o | a_27o <;> simp_all), by rw [ht]; exact hP9, va_K.moved hW.alike hK9, hD9⟩, hS.F ht⟩) hS.2.2 dX9_lot_64
  refine lv_if_eq (tgt := 63) hx hb dX9_lot_51 (by decide) (fun c_30 => absurd c_30 (by decide)) (fun c_30 => ?_)
  refine lv_aload_n hx hb dX9_lot_54 rfl (lv_at hl 0 rfl) ?_
  refine va_get (D := D) (ci := 9) (v := .int 0) (C := RX9) (T := TX9) (N := 44) hx hb hts hin9 hown hK hP 0 rfl rfl 3 (by decide) (hts (.fieldLink RX9 20 "HoneyHouseModel" "lots" "I") (List.mem_of_getElem? (i := 2) rfl)) (fun _ h9 => h9) rfl dX9_lot_55 ?_
  refine lv_bipush (v := 40) hx hb dX9_lot_58 (by decide) ?_
  refine lv_icmp_ne (tgt := 65) hx hb dX9_lot_60 (by decide) (fun c_31 => ?_) (fun c_31 => absurd c_31 (by decide))
  refine lv_aload_n hx hb dX9_lot_65 rfl (lv_at hl 0 rfl) ?_
  refine va_get (D := D) (ci := 9) (v := .int 0) (C := RX9) (T := TX9) (N := 44) hx hb hts hin9 hown hK hP 0 rfl rfl 3 (by decide) (hts (.fieldLink RX9 20 "HoneyHouseModel" "lots" "I") (List.mem_of_getElem? (i := 2) rfl)) (fun _ h9 => h9) rfl dX9_lot_66 ?_
  refine lv_istore (lv' := [(6, .int 0), (0, .ref h0), (1, .int a1), (2, .int a2), (3, .int a3), (4, .int a4), (5, .int a5)]) hx hb dX9_lot_69 hl (by decide) rfl (fun ls hl => ?_)
  refine lv_aload_n hx hb dX9_lot_71 rfl (lv_at hl 1 rfl) ?_
  refine lv_dup hx hb dX9_lot_72 rfl ?_
  refine va_get (D := D) (ci := 9) (v := .int 0) (C := RX9) (T := TX9) (N := 44) hx hb hts hin9 hown hK hP 0 rfl rfl 3 (by decide) (hts (.fieldLink RX9 20 "HoneyHouseModel" "lots" "I") (List.mem_of_getElem? (i := 2) rfl)) (fun _ h9 => h9) rfl dX9_lot_73 ?_
  refine lv_iconst (v := 1) hx hb dX9_lot_76 (by decide) ?_
  refine lv_iadd hx hb dX9_lot_77 ?_
  refine tp_i (y := 1) (by decide) ?_
  refine va_put (D := D) (ci := 9) (v := .int 1) (ty := .int) (C := RX9) (T := TX9) (N := 44) hx hb hts hin9 tyX9 tyX9_ok nmX9 hown hK hP hD hS 0 rfl rfl 3 (by decide) (hts (.fieldLink RX9 20 "HoneyHouseModel" "lots" "I") (List.mem_of_getElem? (i := 2) rfl)) (fun _ h9 => h9) rfl (tyX9_ok 3 (by decide)) rfl rfl (Nat.le_of_ble_eq_true rfl) dX9_lot_78 (fun H locs hP hD hS => ?_)
  have hP : va_P D vwCl [(h0, .inr (9, [.ref m0, .int 0, .int 0, .int 1, .ref m4, .ref m5, .ref m6, .ref m7, .ref m8, .ref m9, .ref m10, .ref m11, .ref m12, .int 0, .int 0, .ref m15, .ref m16, .ref m17, .ref m18, .ref m19, .ref m20, .int 0, .int (-1), .ref m23, .ref m24, .int 0, .int 0, .int 0, .ref m28, .int 0, .int 0, .int 0, .ref m32, .ref m33, .ref m34, .int 0, .ref m36, .ref m37, .ref m38, .ref m39, .ref m40, .ref m41, .ref m42, .int 0])), (m4, .inl (c4, 280, .inl (fun _ => 0))), (m5, .inl (c5, 200, .inl (fun _ => 0))), (m6, .inl (c6, 200, .inl (fun _ => 0))), (m7, .inl (c7, 320, .inl (fun _ => 0))), (m8, .inl (c8, 8, .inl (fun _ => 0)))] H := hP
  have hD : va_D A [(h0, .inr (9, [.ref m0, .int 0, .int 0, .int 1, .ref m4, .ref m5, .ref m6, .ref m7, .ref m8, .ref m9, .ref m10, .ref m11, .ref m12, .int 0, .int 0, .ref m15, .ref m16, .ref m17, .ref m18, .ref m19, .ref m20, .int 0, .int (-1), .ref m23, .ref m24, .int 0, .int 0, .int 0, .ref m28, .int 0, .int 0, .int 0, .ref m32, .ref m33, .ref m34, .int 0, .ref m36, .ref m37, .ref m38, .ref m39, .ref m40, .ref m41, .ref m42, .int 0])), (m4, .inl (c4, 280, .inl (fun _ => 0))), (m5, .inl (c5, 200, .inl (fun _ => 0))), (m6, .inl (c6, 200, .inl (fun _ => 0))), (m7, .inl (c7, 320, .inl (fun _ => 0))), (m8, .inl (c8, 8, .inl (fun _ => 0)))] := hD
  refine lv_aload_n hx hb dX9_lot_81 rfl (lv_at hl 1 rfl) ?_
  refine va_get (D := D) (ci := 9) (v := .ref m4) (C := RX9) (T := TX9) (N := 44) hx hb hts hin9 hown hK hP 0 rfl rfl 4 (by decide) (hts (.fieldLink RX9 23 "HoneyHouseModel" "lot" "[I") (List.mem_of_getElem? (i := 3) rfl)) (fun _ h9 => h9) rfl dX9_lot_82 ?_
  refine lv_bipush (v := 7) hx hb dX9_lot_85 (by decide) ?_
  refine lv_iload hx hb dX9_lot_87 (lv_at hl 0 rfl) ?_
  refine lv_imul hx hb dX9_lot_89 ?_
  refine tp_i (y := 0) (by decide) ?_
  refine lv_iload_n hx hb dX9_lot_90 rfl (lv_at hl 2 rfl) ?_
  refine va_iast (f := fun _ => 0) (n := 280) hx hb hK hP hD hS 1 0 rfl rfl (vp_in_iff.mpr (by decide)) dX9_lot_91 (fun H locs hP hD hS => ?_)
  have hP : va_P D vwCl [(h0, .inr (9, [.ref m0, .int 0, .int 0, .int 1, .ref m4, .ref m5, .ref m6, .ref m7, .ref m8, .ref m9, .ref m10, .ref m11, .ref m12, .int 0, .int 0, .ref m15, .ref m16, .ref m17, .ref m18, .ref m19, .ref m20, .int 0, .int (-1), .ref m23, .ref m24, .int 0, .int 0, .int 0, .ref m28, .int 0, .int 0, .int 0, .ref m32, .ref m33, .ref m34, .int 0, .ref m36, .ref m37, .ref m38, .ref m39, .ref m40, .ref m41, .ref m42, .int 0])), (m4, .inl (c4, 280, .inl (upd (fun _ => 0) 0 a1))), (m5, .inl (c5, 200, .inl (fun _ => 0))), (m6, .inl (c6, 200, .inl (fun _ => 0))), (m7, .inl (c7, 320, .inl (fun _ => 0))), (m8, .inl (c8, 8, .inl (fun _ => 0)))] H := hP
  have hD : va_D A [(h0, .inr (9, [.ref m0, .int 0, .int 0, .int 1, .ref m4, .ref m5, .ref m6, .ref m7, .ref m8, .ref m9, .ref m10, .ref m11, .ref m12, .int 0, .int 0, .ref m15, .ref m16, .ref m17, .ref m18, .ref m19, .ref m20, .int 0, .int (-1), .ref m23, .ref m24, .int 0, .int 0, .int 0, .ref m28, .int 0, .int 0, .int 0, .ref m32, .ref m33, .ref m34, .int 0, .ref m36, .ref m37, .ref m38, .ref m39, .ref m40, .ref m41, .ref m42, .int 0])), (m4, .inl (c4, 280, .inl (upd (fun _ => 0) 0 a1))), (m5, .inl (c5, 200, .inl (fun _ => 0))), (m6, .inl (c6, 200, .inl (fun _ => 0))), (m7, .inl (c7, 320, .inl (fun _ => 0))), (m8, .inl (c8, 8, .inl (fun _ => 0)))] := hD
  generalize upd (fun _ => 0) 0 a1 = f_32 at hP hD
  have hP : va_P D vwCl [(h0, .inr (9, [.ref m0, .int 0, .int 0, .int 1, .ref m4, .ref m5, .ref m6, .ref m7, .ref m8, .ref m9, .ref m10, .ref m11, .ref m12, .int 0, .int 0, .ref m15, .ref m16, .ref m17, .ref m18, .ref m19, .ref m20, .int 0, .int (-1), .ref m23, .ref m24, .int 0, .int 0, .int 0, .ref m28, .int 0, .int 0, .int 0, .ref m32, .ref m33, .ref m34, .int 0, .ref m36, .ref m37, .ref m38, .ref m39, .ref m40, .ref m41, .ref m42, .int 0])), (m4, .inl (c4, 280, .inl f_32)), (m5, .inl (c5, 200, .inl (fun _ => 0))), (m6, .inl (c6, 200, .inl (fun _ => 0))), (m7, .inl (c7, 320, .inl (fun _ => 0))), (m8, .inl (c8, 8, .inl (fun _ => 0)))] H := hP
  have hD : va_D A [(h0, .inr (9, [.ref m0, .int 0, .int 0, .int 1, .ref m4, .ref m5, .ref m6, .ref m7, .ref m8, .ref m9, .ref m10, .ref m11, .ref m12, .int 0, .int 0, .ref m15, .ref m16, .ref m17, .ref m18, .ref m19, .ref m20, .int 0, .int (-1), .ref m23, .ref m24, .int 0, .int 0, .int 0, .ref m28, .int 0, .int 0, .int 0, .ref m32, .ref m33, .ref m34, .int 0, .ref m36, .ref m37, .ref m38, .ref m39, .ref m40, .ref m41, .ref m42, .int 0])), (m4, .inl (c4, 280, .inl f_32)), (m5, .inl (c5, 200, .inl (fun _ => 0))), (m6, .inl (c6, 200, .inl (fun _ => 0))), (m7, .inl (c7, 320, .inl (fun _ => 0))), (m8, .inl (c8, 8, .inl (fun _ => 0)))] := hD
  refine lv_aload_n hx hb dX9_lot_92 rfl (lv_at hl 1 rfl) ?_
  refine va_get (D := D) (ci := 9) (v := .ref m4) (C := RX9) (T := TX9) (N := 44) hx hb hts hin9 hown hK hP 0 rfl rfl 4 (by decide) (hts (.fieldLink RX9 23 "HoneyHouseModel" "lot" "[I") (List.mem_of_getElem? (i := 3) rfl)) (fun _ h9 => h9) rfl dX9_lot_93 ?_
  refine lv_bipush (v := 7) hx hb dX9_lot_96 (by decide) ?_
  refine lv_iload hx hb dX9_lot_98 (lv_at hl 0 rfl) ?_
  refine lv_imul hx hb dX9_lot_100 ?_
  refine tp_i (y := 0) (by decide) ?_
  refine lv_iconst (v := 1) hx hb dX9_lot_101 (by decide) ?_
  refine lv_iadd hx hb dX9_lot_102 ?_
  refine tp_i (y := 1) (by decide) ?_
  refine lv_iload_n hx hb dX9_lot_103 rfl (lv_at hl 3 rfl) ?_
  refine va_iast (f := f_32) (n := 280) hx hb hK hP hD hS 1 0 rfl rfl (vp_in_iff.mpr (by decide)) dX9_lot_104 (fun H locs hP hD hS => ?_)
  have hP : va_P D vwCl [(h0, .inr (9, [.ref m0, .int 0, .int 0, .int 1, .ref m4, .ref m5, .ref m6, .ref m7, .ref m8, .ref m9, .ref m10, .ref m11, .ref m12, .int 0, .int 0, .ref m15, .ref m16, .ref m17, .ref m18, .ref m19, .ref m20, .int 0, .int (-1), .ref m23, .ref m24, .int 0, .int 0, .int 0, .ref m28, .int 0, .int 0, .int 0, .ref m32, .ref m33, .ref m34, .int 0, .ref m36, .ref m37, .ref m38, .ref m39, .ref m40, .ref m41, .ref m42, .int 0])), (m4, .inl (c4, 280, .inl (upd f_32 1 a2))), (m5, .inl (c5, 200, .inl (fun _ => 0))), (m6, .inl (c6, 200, .inl (fun _ => 0))), (m7, .inl (c7, 320, .inl (fun _ => 0))), (m8, .inl (c8, 8, .inl (fun _ => 0)))] H := hP
  have hD : va_D A [(h0, .inr (9, [.ref m0, .int 0, .int 0, .int 1, .ref m4, .ref m5, .ref m6, .ref m7, .ref m8, .ref m9, .ref m10, .ref m11, .ref m12, .int 0, .int 0, .ref m15, .ref m16, .ref m17, .ref m18, .ref m19, .ref m20, .int 0, .int (-1), .ref m23, .ref m24, .int 0, .int 0, .int 0, .ref m28, .int 0, .int 0, .int 0, .ref m32, .ref m33, .ref m34, .int 0, .ref m36, .ref m37, .ref m38, .ref m39, .ref m40, .ref m41, .ref m42, .int 0])), (m4, .inl (c4, 280, .inl (upd f_32 1 a2))), (m5, .inl (c5, 200, .inl (fun _ => 0))), (m6, .inl (c6, 200, .inl (fun _ => 0))), (m7, .inl (c7, 320, .inl (fun _ => 0))), (m8, .inl (c8, 8, .inl (fun _ => 0)))] := hD
  generalize upd f_32 1 a2 = f_33 at hP hD
  have hP : va_P D vwCl [(h0, .inr (9, [.ref m0, .int 0, .int 0, .int 1, .ref m4, .ref m5, .ref m6, .ref m7, .ref m8, .ref m9, .ref m10, .ref m11, .ref m12, .int 0, .int 0, .ref m15, .ref m16, .ref m17, .ref m18, .ref m19, .ref m20, .int 0, .int (-1), .ref m23, .ref m24, .int 0, .int 0, .int 0, .ref m28, .int 0, .int 0, .int 0, .ref m32, .ref m33, .ref m34, .int 0, .ref m36, .ref m37, .ref m38, .ref m39, .ref m40, .ref m41, .ref m42, .int 0])), (m4, .inl (c4, 280, .inl f_33)), (m5, .inl (c5, 200, .inl (fun _ => 0))), (m6, .inl (c6, 200, .inl (fun _ => 0))), (m7, .inl (c7, 320, .inl (fun _ => 0))), (m8, .inl (c8, 8, .inl (fun _ => 0)))] H := hP
  have hD : va_D A [(h0, .inr (9, [.ref m0, .int 0, .int 0, .int 1, .ref m4, .ref m5, .ref m6, .ref m7, .ref m8, .ref m9, .ref m10, .ref m11, .ref m12, .int 0, .int 0, .ref m15, .ref m16, .ref m17, .ref m18, .ref m19, .ref m20, .int 0, .int (-1), .ref m23, .ref m24, .int 0, .int 0, .int 0, .ref m28, .int 0, .int 0, .int 0, .ref m32, .ref m33, .ref m34, .int 0, .ref m36, .ref m37, .ref m38, .ref m39, .ref m40, .ref m41, .ref m42, .int 0])), (m4, .inl (c4, 280, .inl f_33)), (m5, .inl (c5, 200, .inl (fun _ => 0))), (m6, .inl (c6, 200, .inl (fun _ => 0))), (m7, .inl (c7, 320, .inl (fun _ => 0))), (m8, .inl (c8, 8, .inl (fun _ => 0)))] := hD
  refine lv_aload_n hx hb dX9_lot_105 rfl (lv_at hl 1 rfl) ?_
  refine va_get (D := D) (ci := 9) (v := .ref m4) (C := RX9) (T := TX9) (N := 44) hx hb hts hin9 hown hK hP 0 rfl rfl 4 (by decide) (hts (.fieldLink RX9 23 "HoneyHouseModel" "lot" "[I") (List.mem_of_getElem? (i := 3) rfl)) (fun _ h9 => h9) rfl dX9_lot_106 ?_
  refine lv_bipush (v := 7) hx hb dX9_lot_109 (by decide) ?_
  refine lv_iload hx hb dX9_lot_111 (lv_at hl 0 rfl) ?_
  refine lv_imul hx hb dX9_lot_113 ?_
  refine tp_i (y := 0) (by decide) ?_
  refine lv_iconst (v := 2) hx hb dX9_lot_114 (by decide) ?_
  refine lv_iadd hx hb dX9_lot_115 ?_
  refine tp_i (y := 2) (by decide) ?_
  refine lv_iload_n hx hb dX9_lot_116 rfl (lv_at hl 4 rfl) ?_
  refine va_iast (f := f_33) (n := 280) hx hb hK hP hD hS 1 0 rfl rfl (vp_in_iff.mpr (by decide)) dX9_lot_117 (fun H locs hP hD hS => ?_)
  have hP : va_P D vwCl [(h0, .inr (9, [.ref m0, .int 0, .int 0, .int 1, .ref m4, .ref m5, .ref m6, .ref m7, .ref m8, .ref m9, .ref m10, .ref m11, .ref m12, .int 0, .int 0, .ref m15, .ref m16, .ref m17, .ref m18, .ref m19, .ref m20, .int 0, .int (-1), .ref m23, .ref m24, .int 0, .int 0, .int 0, .ref m28, .int 0, .int 0, .int 0, .ref m32, .ref m33, .ref m34, .int 0, .ref m36, .ref m37, .ref m38, .ref m39, .ref m40, .ref m41, .ref m42, .int 0])), (m4, .inl (c4, 280, .inl (upd f_33 2 a3))), (m5, .inl (c5, 200, .inl (fun _ => 0))), (m6, .inl (c6, 200, .inl (fun _ => 0))), (m7, .inl (c7, 320, .inl (fun _ => 0))), (m8, .inl (c8, 8, .inl (fun _ => 0)))] H := hP
  have hD : va_D A [(h0, .inr (9, [.ref m0, .int 0, .int 0, .int 1, .ref m4, .ref m5, .ref m6, .ref m7, .ref m8, .ref m9, .ref m10, .ref m11, .ref m12, .int 0, .int 0, .ref m15, .ref m16, .ref m17, .ref m18, .ref m19, .ref m20, .int 0, .int (-1), .ref m23, .ref m24, .int 0, .int 0, .int 0, .ref m28, .int 0, .int 0, .int 0, .ref m32, .ref m33, .ref m34, .int 0, .ref m36, .ref m37, .ref m38, .ref m39, .ref m40, .ref m41, .ref m42, .int 0])), (m4, .inl (c4, 280, .inl (upd f_33 2 a3))), (m5, .inl (c5, 200, .inl (fun _ => 0))), (m6, .inl (c6, 200, .inl (fun _ => 0))), (m7, .inl (c7, 320, .inl (fun _ => 0))), (m8, .inl (c8, 8, .inl (fun _ => 0)))] := hD
  generalize upd f_33 2 a3 = f_34 at hP hD
  have hP : va_P D vwCl [(h0, .inr (9, [.ref m0, .int 0, .int 0, .int 1, .ref m4, .ref m5, .ref m6, .ref m7, .ref m8, .ref m9, .ref m10, .ref m11, .ref m12, .int 0, .int 0, .ref m15, .ref m16, .ref m17, .ref m18, .ref m19, .ref m20, .int 0, .int (-1), .ref m23, .ref m24, .int 0, .int 0, .int 0, .ref m28, .int 0, .int 0, .int 0, .ref m32, .ref m33, .ref m34, .int 0, .ref m36, .ref m37, .ref m38, .ref m39, .ref m40, .ref m41, .ref m42, .int 0])), (m4, .inl (c4, 280, .inl f_34)), (m5, .inl (c5, 200, .inl (fun _ => 0))), (m6, .inl (c6, 200, .inl (fun _ => 0))), (m7, .inl (c7, 320, .inl (fun _ => 0))), (m8, .inl (c8, 8, .inl (fun _ => 0)))] H := hP
  have hD : va_D A [(h0, .inr (9, [.ref m0, .int 0, .int 0, .int 1, .ref m4, .ref m5, .ref m6, .ref m7, .ref m8, .ref m9, .ref m10, .ref m11, .ref m12, .int 0, .int 0, .ref m15, .ref m16, .ref m17, .ref m18, .ref m19, .ref m20, .int 0, .int (-1), .ref m23, .ref m24, .int 0, .int 0, .int 0, .ref m28, .int 0, .int 0, .int 0, .ref m32, .ref m33, .ref m34, .int 0, .ref m36, .ref m37, .ref m38, .ref m39, .ref m40, .ref m41, .ref m42, .int 0])), (m4, .inl (c4, 280, .inl f_34)), (m5, .inl (c5, 200, .inl (fun _ => 0))), (m6, .inl (c6, 200, .inl (fun _ => 0))), (m7, .inl (c7, 320, .inl (fun _ => 0))), (m8, .inl (c8, 8, .inl (fun _ => 0)))] := hD
  refine lv_aload_n hx hb dX9_lot_118 rfl (lv_at hl 1 rfl) ?_
  refine va_get (D := D) (ci := 9) (v := .ref m4) (C := RX9) (T := TX9) (N := 44) hx hb hts hin9 hown hK hP 0 rfl rfl 4 (by decide) (hts (.fieldLink RX9 23 "HoneyHouseModel" "lot" "[I") (List.mem_of_getElem? (i := 3) rfl)) (fun _ h9 => h9) rfl dX9_lot_119 ?_
  refine lv_bipush (v := 7) hx hb dX9_lot_122 (by decide) ?_
  refine lv_iload hx hb dX9_lot_124 (lv_at hl 0 rfl) ?_
  refine lv_imul hx hb dX9_lot_126 ?_
  refine tp_i (y := 0) (by decide) ?_
  refine lv_iconst (v := 3) hx hb dX9_lot_127 (by decide) ?_
  refine lv_iadd hx hb dX9_lot_128 ?_
  refine tp_i (y := 3) (by decide) ?_
  refine lv_iload hx hb dX9_lot_129 (lv_at hl 5 rfl) ?_
  refine va_iast (f := f_34) (n := 280) hx hb hK hP hD hS 1 0 rfl rfl (vp_in_iff.mpr (by decide)) dX9_lot_131 (fun H locs hP hD hS => ?_)
  have hP : va_P D vwCl [(h0, .inr (9, [.ref m0, .int 0, .int 0, .int 1, .ref m4, .ref m5, .ref m6, .ref m7, .ref m8, .ref m9, .ref m10, .ref m11, .ref m12, .int 0, .int 0, .ref m15, .ref m16, .ref m17, .ref m18, .ref m19, .ref m20, .int 0, .int (-1), .ref m23, .ref m24, .int 0, .int 0, .int 0, .ref m28, .int 0, .int 0, .int 0, .ref m32, .ref m33, .ref m34, .int 0, .ref m36, .ref m37, .ref m38, .ref m39, .ref m40, .ref m41, .ref m42, .int 0])), (m4, .inl (c4, 280, .inl (upd f_34 3 a4))), (m5, .inl (c5, 200, .inl (fun _ => 0))), (m6, .inl (c6, 200, .inl (fun _ => 0))), (m7, .inl (c7, 320, .inl (fun _ => 0))), (m8, .inl (c8, 8, .inl (fun _ => 0)))] H := hP
  have hD : va_D A [(h0, .inr (9, [.ref m0, .int 0, .int 0, .int 1, .ref m4, .ref m5, .ref m6, .ref m7, .ref m8, .ref m9, .ref m10, .ref m11, .ref m12, .int 0, .int 0, .ref m15, .ref m16, .ref m17, .ref m18, .ref m19, .ref m20, .int 0, .int (-1), .ref m23, .ref m24, .int 0, .int 0, .int 0, .ref m28, .int 0, .int 0, .int 0, .ref m32, .ref m33, .ref m34, .int 0, .ref m36, .ref m37, .ref m38, .ref m39, .ref m40, .ref m41, .ref m42, .int 0])), (m4, .inl (c4, 280, .inl (upd f_34 3 a4))), (m5, .inl (c5, 200, .inl (fun _ => 0))), (m6, .inl (c6, 200, .inl (fun _ => 0))), (m7, .inl (c7, 320, .inl (fun _ => 0))), (m8, .inl (c8, 8, .inl (fun _ => 0)))] := hD
  generalize upd f_34 3 a4 = f_35 at hP hD
  have hP : va_P D vwCl [(h0, .inr (9, [.ref m0, .int 0, .int 0, .int 1, .ref m4, .ref m5, .ref m6, .ref m7, .ref m8, .ref m9, .ref m10, .ref m11, .ref m12, .int 0, .int 0, .ref m15, .ref m16, .ref m17, .ref m18, .ref m19, .ref m20, .int 0, .int (-1), .ref m23, .ref m24, .int 0, .int 0, .int 0, .ref m28, .int 0, .int 0, .int 0, .ref m32, .ref m33, .ref m34, .int 0, .ref m36, .ref m37, .ref m38, .ref m39, .ref m40, .ref m41, .ref m42, .int 0])), (m4, .inl (c4, 280, .inl f_35)), (m5, .inl (c5, 200, .inl (fun _ => 0))), (m6, .inl (c6, 200, .inl (fun _ => 0))), (m7, .inl (c7, 320, .inl (fun _ => 0))), (m8, .inl (c8, 8, .inl (fun _ => 0)))] H := hP
  have hD : va_D A [(h0, .inr (9, [.ref m0, .int 0, .int 0, .int 1, .ref m4, .ref m5, .ref m6, .ref m7, .ref m8, .ref m9, .ref m10, .ref m11, .ref m12, .int 0, .int 0, .ref m15, .ref m16, .ref m17, .ref m18, .ref m19, .ref m20, .int 0, .int (-1), .ref m23, .ref m24, .int 0, .int 0, .int 0, .ref m28, .int 0, .int 0, .int 0, .ref m32, .ref m33, .ref m34, .int 0, .ref m36, .ref m37, .ref m38, .ref m39, .ref m40, .ref m41, .ref m42, .int 0])), (m4, .inl (c4, 280, .inl f_35)), (m5, .inl (c5, 200, .inl (fun _ => 0))), (m6, .inl (c6, 200, .inl (fun _ => 0))), (m7, .inl (c7, 320, .inl (fun _ => 0))), (m8, .inl (c8, 8, .inl (fun _ => 0)))] := hD
  refine lv_aload_n hx hb dX9_lot_132 rfl (lv_at hl 1 rfl) ?_
  refine va_get (D := D) (ci := 9) (v := .ref m4) (C := RX9) (T := TX9) (N := 44) hx hb hts hin9 hown hK hP 0 rfl rfl 4 (by decide) (hts (.fieldLink RX9 23 "HoneyHouseModel" "lot" "[I") (List.mem_of_getElem? (i := 3) rfl)) (fun _ h9 => h9) rfl dX9_lot_133 ?_
  refine lv_bipush (v := 7) hx hb dX9_lot_136 (by decide) ?_
  refine lv_iload hx hb dX9_lot_138 (lv_at hl 0 rfl) ?_
  refine lv_imul hx hb dX9_lot_140 ?_
  refine tp_i (y := 0) (by decide) ?_
  refine lv_iconst (v := 4) hx hb dX9_lot_141 (by decide) ?_
  refine lv_iadd hx hb dX9_lot_142 ?_
  refine tp_i (y := 4) (by decide) ?_
  refine lv_iload hx hb dX9_lot_143 (lv_at hl 6 rfl) ?_
  refine va_iast (f := f_35) (n := 280) hx hb hK hP hD hS 1 0 rfl rfl (vp_in_iff.mpr (by decide)) dX9_lot_145 (fun H locs hP hD hS => ?_)
  have hP : va_P D vwCl [(h0, .inr (9, [.ref m0, .int 0, .int 0, .int 1, .ref m4, .ref m5, .ref m6, .ref m7, .ref m8, .ref m9, .ref m10, .ref m11, .ref m12, .int 0, .int 0, .ref m15, .ref m16, .ref m17, .ref m18, .ref m19, .ref m20, .int 0, .int (-1), .ref m23, .ref m24, .int 0, .int 0, .int 0, .ref m28, .int 0, .int 0, .int 0, .ref m32, .ref m33, .ref m34, .int 0, .ref m36, .ref m37, .ref m38, .ref m39, .ref m40, .ref m41, .ref m42, .int 0])), (m4, .inl (c4, 280, .inl (upd f_35 4 a5))), (m5, .inl (c5, 200, .inl (fun _ => 0))), (m6, .inl (c6, 200, .inl (fun _ => 0))), (m7, .inl (c7, 320, .inl (fun _ => 0))), (m8, .inl (c8, 8, .inl (fun _ => 0)))] H := hP
  have hD : va_D A [(h0, .inr (9, [.ref m0, .int 0, .int 0, .int 1, .ref m4, .ref m5, .ref m6, .ref m7, .ref m8, .ref m9, .ref m10, .ref m11, .ref m12, .int 0, .int 0, .ref m15, .ref m16, .ref m17, .ref m18, .ref m19, .ref m20, .int 0, .int (-1), .ref m23, .ref m24, .int 0, .int 0, .int 0, .ref m28, .int 0, .int 0, .int 0, .ref m32, .ref m33, .ref m34, .int 0, .ref m36, .ref m37, .ref m38, .ref m39, .ref m40, .ref m41, .ref m42, .int 0])), (m4, .inl (c4, 280, .inl (upd f_35 4 a5))), (m5, .inl (c5, 200, .inl (fun _ => 0))), (m6, .inl (c6, 200, .inl (fun _ => 0))), (m7, .inl (c7, 320, .inl (fun _ => 0))), (m8, .inl (c8, 8, .inl (fun _ => 0)))] := hD
  generalize upd f_35 4 a5 = f_36 at hP hD
  have hP : va_P D vwCl [(h0, .inr (9, [.ref m0, .int 0, .int 0, .int 1, .ref m4, .ref m5, .ref m6, .ref m7, .ref m8, .ref m9, .ref m10, .ref m11, .ref m12, .int 0, .int 0, .ref m15, .ref m16, .ref m17, .ref m18, .ref m19, .ref m20, .int 0, .int (-1), .ref m23, .ref m24, .int 0, .int 0, .int 0, .ref m28, .int 0, .int 0, .int 0, .ref m32, .ref m33, .ref m34, .int 0, .ref m36, .ref m37, .ref m38, .ref m39, .ref m40, .ref m41, .ref m42, .int 0])), (m4, .inl (c4, 280, .inl f_36)), (m5, .inl (c5, 200, .inl (fun _ => 0))), (m6, .inl (c6, 200, .inl (fun _ => 0))), (m7, .inl (c7, 320, .inl (fun _ => 0))), (m8, .inl (c8, 8, .inl (fun _ => 0)))] H := hP
  have hD : va_D A [(h0, .inr (9, [.ref m0, .int 0, .int 0, .int 1, .ref m4, .ref m5, .ref m6, .ref m7, .ref m8, .ref m9, .ref m10, .ref m11, .ref m12, .int 0, .int 0, .ref m15, .ref m16, .ref m17, .ref m18, .ref m19, .ref m20, .int 0, .int (-1), .ref m23, .ref m24, .int 0, .int 0, .int 0, .ref m28, .int 0, .int 0, .int 0, .ref m32, .ref m33, .ref m34, .int 0, .ref m36, .ref m37, .ref m38, .ref m39, .ref m40, .ref m41, .ref m42, .int 0])), (m4, .inl (c4, 280, .inl f_36)), (m5, .inl (c5, 200, .inl (fun _ => 0))), (m6, .inl (c6, 200, .inl (fun _ => 0))), (m7, .inl (c7, 320, .inl (fun _ => 0))), (m8, .inl (c8, 8, .inl (fun _ => 0)))] := hD
  refine lv_aload_n hx hb dX9_lot_146 rfl (lv_at hl 1 rfl) ?_
  refine va_get (D := D) (ci := 9) (v := .ref m4) (C := RX9) (T := TX9) (N := 44) hx hb hts hin9 hown hK hP 0 rfl rfl 4 (by decide) (hts (.fieldLink RX9 23 "HoneyHouseModel" "lot" "[I") (List.mem_of_getElem? (i := 3) rfl)) (fun _ h9 => h9) rfl dX9_lot_147 ?_
  refine lv_bipush (v := 7) hx hb dX9_lot_150 (by decide) ?_
  refine lv_iload hx hb dX9_lot_152 (lv_at hl 0 rfl) ?_
  refine lv_imul hx hb dX9_lot_154 ?_
  refine tp_i (y := 0) (by decide) ?_
  refine lv_iconst (v := 5) hx hb dX9_lot_155 (by decide) ?_
  refine lv_iadd hx hb dX9_lot_156 ?_
  refine tp_i (y := 5) (by decide) ?_
  refine lv_iload_n hx hb dX9_lot_157 rfl (lv_at hl 3 rfl) ?_
  refine va_iast (f := f_36) (n := 280) hx hb hK hP hD hS 1 0 rfl rfl (vp_in_iff.mpr (by decide)) dX9_lot_158 (fun H locs hP hD hS => ?_)
  have hP : va_P D vwCl [(h0, .inr (9, [.ref m0, .int 0, .int 0, .int 1, .ref m4, .ref m5, .ref m6, .ref m7, .ref m8, .ref m9, .ref m10, .ref m11, .ref m12, .int 0, .int 0, .ref m15, .ref m16, .ref m17, .ref m18, .ref m19, .ref m20, .int 0, .int (-1), .ref m23, .ref m24, .int 0, .int 0, .int 0, .ref m28, .int 0, .int 0, .int 0, .ref m32, .ref m33, .ref m34, .int 0, .ref m36, .ref m37, .ref m38, .ref m39, .ref m40, .ref m41, .ref m42, .int 0])), (m4, .inl (c4, 280, .inl (upd f_36 5 a2))), (m5, .inl (c5, 200, .inl (fun _ => 0))), (m6, .inl (c6, 200, .inl (fun _ => 0))), (m7, .inl (c7, 320, .inl (fun _ => 0))), (m8, .inl (c8, 8, .inl (fun _ => 0)))] H := hP
  have hD : va_D A [(h0, .inr (9, [.ref m0, .int 0, .int 0, .int 1, .ref m4, .ref m5, .ref m6, .ref m7, .ref m8, .ref m9, .ref m10, .ref m11, .ref m12, .int 0, .int 0, .ref m15, .ref m16, .ref m17, .ref m18, .ref m19, .ref m20, .int 0, .int (-1), .ref m23, .ref m24, .int 0, .int 0, .int 0, .ref m28, .int 0, .int 0, .int 0, .ref m32, .ref m33, .ref m34, .int 0, .ref m36, .ref m37, .ref m38, .ref m39, .ref m40, .ref m41, .ref m42, .int 0])), (m4, .inl (c4, 280, .inl (upd f_36 5 a2))), (m5, .inl (c5, 200, .inl (fun _ => 0))), (m6, .inl (c6, 200, .inl (fun _ => 0))), (m7, .inl (c7, 320, .inl (fun _ => 0))), (m8, .inl (c8, 8, .inl (fun _ => 0)))] := hD
  generalize upd f_36 5 a2 = f_37 at hP hD
  have hP : va_P D vwCl [(h0, .inr (9, [.ref m0, .int 0, .int 0, .int 1, .ref m4, .ref m5, .ref m6, .ref m7, .ref m8, .ref m9, .ref m10, .ref m11, .ref m12, .int 0, .int 0, .ref m15, .ref m16, .ref m17, .ref m18, .ref m19, .ref m20, .int 0, .int (-1), .ref m23, .ref m24, .int 0, .int 0, .int 0, .ref m28, .int 0, .int 0, .int 0, .ref m32, .ref m33, .ref m34, .int 0, .ref m36, .ref m37, .ref m38, .ref m39, .ref m40, .ref m41, .ref m42, .int 0])), (m4, .inl (c4, 280, .inl f_37)), (m5, .inl (c5, 200, .inl (fun _ => 0))), (m6, .inl (c6, 200, .inl (fun _ => 0))), (m7, .inl (c7, 320, .inl (fun _ => 0))), (m8, .inl (c8, 8, .inl (fun _ => 0)))] H := hP
  have hD : va_D A [(h0, .inr (9, [.ref m0, .int 0, .int 0, .int 1, .ref m4, .ref m5, .ref m6, .ref m7, .ref m8, .ref m9, .ref m10, .ref m11, .ref m12, .int 0, .int 0, .ref m15, .ref m16, .ref m17, .ref m18, .ref m19, .ref m20, .int 0, .int (-1), .ref m23, .ref m24, .int 0, .int 0, .int 0, .ref m28, .int 0, .int 0, .int 0, .ref m32, .ref m33, .ref m34, .int 0, .ref m36, .ref m37, .ref m38, .ref m39, .ref m40, .ref m41, .ref m42, .int 0])), (m4, .inl (c4, 280, .inl f_37)), (m5, .inl (c5, 200, .inl (fun _ => 0))), (m6, .inl (c6, 200, .inl (fun _ => 0))), (m7, .inl (c7, 320, .inl (fun _ => 0))), (m8, .inl (c8, 8, .inl (fun _ => 0)))] := hD
  refine lv_iconst (v := 0) hx hb dX9_lot_159 (by decide) ?_
  refine lv_istore (lv' := [(7, .int 0), (6, .int 0), (0, .ref h0), (1, .int a1), (2, .int a2), (3, .int a3), (4, .int a4), (5, .int a5)]) hx hb dX9_lot_160 hl (by decide) rfl (fun ls hl => ?_)
  refine lv_iload hx hb dX9_lot_162 (lv_at hl 0 rfl) ?_
  refine lv_iconst (v := 5) hx hb dX9_lot_164 (by decide) ?_
  refine lv_icmp_ge (tgt := 202) hx hb dX9_lot_165 (by decide) (fun c_38 => absurd c_38 (by decide)) (fun c_38 => ?_)
  refine lv_aload_n hx hb dX9_lot_168 rfl (lv_at hl 2 rfl) ?_
  refine va_get (D := D) (ci := 9) (v := .ref m5) (C := RX9) (T := TX9) (N := 44) hx hb hts hin9 hown hK hP 0 rfl rfl 5 (by decide) (hts (.fieldLink RX9 26 "HoneyHouseModel" "low" "[I") (List.mem_of_getElem? (i := 4) rfl)) (fun _ h9 => h9) rfl dX9_lot_169 ?_
  refine lv_iconst (v := 5) hx hb dX9_lot_172 (by decide) ?_
  refine lv_iload hx hb dX9_lot_173 (lv_at hl 1 rfl) ?_
  refine lv_imul hx hb dX9_lot_175 ?_
  refine tp_i (y := 0) (by decide) ?_
  refine lv_iload hx hb dX9_lot_176 (lv_at hl 0 rfl) ?_
  refine lv_iadd hx hb dX9_lot_178 ?_
  refine tp_i (y := 0) (by decide) ?_
  refine lv_iconst (v := 0) hx hb dX9_lot_179 (by decide) ?_
  refine va_iast (f := fun _ => 0) (n := 200) hx hb hK hP hD hS 2 1 rfl rfl (vp_in_iff.mpr (by decide)) dX9_lot_180 (fun H locs hP hD hS => ?_)
  have hP : va_P D vwCl [(h0, .inr (9, [.ref m0, .int 0, .int 0, .int 1, .ref m4, .ref m5, .ref m6, .ref m7, .ref m8, .ref m9, .ref m10, .ref m11, .ref m12, .int 0, .int 0, .ref m15, .ref m16, .ref m17, .ref m18, .ref m19, .ref m20, .int 0, .int (-1), .ref m23, .ref m24, .int 0, .int 0, .int 0, .ref m28, .int 0, .int 0, .int 0, .ref m32, .ref m33, .ref m34, .int 0, .ref m36, .ref m37, .ref m38, .ref m39, .ref m40, .ref m41, .ref m42, .int 0])), (m4, .inl (c4, 280, .inl f_37)), (m5, .inl (c5, 200, .inl (upd (fun _ => 0) 0 0))), (m6, .inl (c6, 200, .inl (fun _ => 0))), (m7, .inl (c7, 320, .inl (fun _ => 0))), (m8, .inl (c8, 8, .inl (fun _ => 0)))] H := hP
  have hD : va_D A [(h0, .inr (9, [.ref m0, .int 0, .int 0, .int 1, .ref m4, .ref m5, .ref m6, .ref m7, .ref m8, .ref m9, .ref m10, .ref m11, .ref m12, .int 0, .int 0, .ref m15, .ref m16, .ref m17, .ref m18, .ref m19, .ref m20, .int 0, .int (-1), .ref m23, .ref m24, .int 0, .int 0, .int 0, .ref m28, .int 0, .int 0, .int 0, .ref m32, .ref m33, .ref m34, .int 0, .ref m36, .ref m37, .ref m38, .ref m39, .ref m40, .ref m41, .ref m42, .int 0])), (m4, .inl (c4, 280, .inl f_37)), (m5, .inl (c5, 200, .inl (upd (fun _ => 0) 0 0))), (m6, .inl (c6, 200, .inl (fun _ => 0))), (m7, .inl (c7, 320, .inl (fun _ => 0))), (m8, .inl (c8, 8, .inl (fun _ => 0)))] := hD
  generalize upd (fun _ => 0) 0 0 = f_39 at hP hD
  have hP : va_P D vwCl [(h0, .inr (9, [.ref m0, .int 0, .int 0, .int 1, .ref m4, .ref m5, .ref m6, .ref m7, .ref m8, .ref m9, .ref m10, .ref m11, .ref m12, .int 0, .int 0, .ref m15, .ref m16, .ref m17, .ref m18, .ref m19, .ref m20, .int 0, .int (-1), .ref m23, .ref m24, .int 0, .int 0, .int 0, .ref m28, .int 0, .int 0, .int 0, .ref m32, .ref m33, .ref m34, .int 0, .ref m36, .ref m37, .ref m38, .ref m39, .ref m40, .ref m41, .ref m42, .int 0])), (m4, .inl (c4, 280, .inl f_37)), (m5, .inl (c5, 200, .inl f_39)), (m6, .inl (c6, 200, .inl (fun _ => 0))), (m7, .inl (c7, 320, .inl (fun _ => 0))), (m8, .inl (c8, 8, .inl (fun _ => 0)))] H := hP
  have hD : va_D A [(h0, .inr (9, [.ref m0, .int 0, .int 0, .int 1, .ref m4, .ref m5, .ref m6, .ref m7, .ref m8, .ref m9, .ref m10, .ref m11, .ref m12, .int 0, .int 0, .ref m15, .ref m16, .ref m17, .ref m18, .ref m19, .ref m20, .int 0, .int (-1), .ref m23, .ref m24, .int 0, .int 0, .int 0, .ref m28, .int 0, .int 0, .int 0, .ref m32, .ref m33, .ref m34, .int 0, .ref m36, .ref m37, .ref m38, .ref m39, .ref m40, .ref m41, .ref m42, .int 0])), (m4, .inl (c4, 280, .inl f_37)), (m5, .inl (c5, 200, .inl f_39)), (m6, .inl (c6, 200, .inl (fun _ => 0))), (m7, .inl (c7, 320, .inl (fun _ => 0))), (m8, .inl (c8, 8, .inl (fun _ => 0)))] := hD
  refine lv_aload_n hx hb dX9_lot_181 rfl (lv_at hl 2 rfl) ?_
  refine va_get (D := D) (ci := 9) (v := .ref m6) (C := RX9) (T := TX9) (N := 44) hx hb hts hin9 hown hK hP 0 rfl rfl 6 (by decide) (hts (.fieldLink RX9 29 "HoneyHouseModel" "high" "[I") (List.mem_of_getElem? (i := 5) rfl)) (fun _ h9 => h9) rfl dX9_lot_182 ?_
  refine lv_iconst (v := 5) hx hb dX9_lot_185 (by decide) ?_
  refine lv_iload hx hb dX9_lot_186 (lv_at hl 1 rfl) ?_
  refine lv_imul hx hb dX9_lot_188 ?_
  refine tp_i (y := 0) (by decide) ?_
  refine lv_iload hx hb dX9_lot_189 (lv_at hl 0 rfl) ?_
  refine lv_iadd hx hb dX9_lot_191 ?_
  refine tp_i (y := 0) (by decide) ?_
  refine lv_sipush (v := 1000) hx hb dX9_lot_192 (by decide) ?_
  refine va_iast (f := fun _ => 0) (n := 200) hx hb hK hP hD hS 3 2 rfl rfl (vp_in_iff.mpr (by decide)) dX9_lot_195 (fun H locs hP hD hS => ?_)
  have hP : va_P D vwCl [(h0, .inr (9, [.ref m0, .int 0, .int 0, .int 1, .ref m4, .ref m5, .ref m6, .ref m7, .ref m8, .ref m9, .ref m10, .ref m11, .ref m12, .int 0, .int 0, .ref m15, .ref m16, .ref m17, .ref m18, .ref m19, .ref m20, .int 0, .int (-1), .ref m23, .ref m24, .int 0, .int 0, .int 0, .ref m28, .int 0, .int 0, .int 0, .ref m32, .ref m33, .ref m34, .int 0, .ref m36, .ref m37, .ref m38, .ref m39, .ref m40, .ref m41, .ref m42, .int 0])), (m4, .inl (c4, 280, .inl f_37)), (m5, .inl (c5, 200, .inl f_39)), (m6, .inl (c6, 200, .inl (upd (fun _ => 0) 0 1000))), (m7, .inl (c7, 320, .inl (fun _ => 0))), (m8, .inl (c8, 8, .inl (fun _ => 0)))] H := hP
  have hD : va_D A [(h0, .inr (9, [.ref m0, .int 0, .int 0, .int 1, .ref m4, .ref m5, .ref m6, .ref m7, .ref m8, .ref m9, .ref m10, .ref m11, .ref m12, .int 0, .int 0, .ref m15, .ref m16, .ref m17, .ref m18, .ref m19, .ref m20, .int 0, .int (-1), .ref m23, .ref m24, .int 0, .int 0, .int 0, .ref m28, .int 0, .int 0, .int 0, .ref m32, .ref m33, .ref m34, .int 0, .ref m36, .ref m37, .ref m38, .ref m39, .ref m40, .ref m41, .ref m42, .int 0])), (m4, .inl (c4, 280, .inl f_37)), (m5, .inl (c5, 200, .inl f_39)), (m6, .inl (c6, 200, .inl (upd (fun _ => 0) 0 1000))), (m7, .inl (c7, 320, .inl (fun _ => 0))), (m8, .inl (c8, 8, .inl (fun _ => 0)))] := hD
  generalize upd (fun _ => 0) 0 1000 = f_40 at hP hD
  have hP : va_P D vwCl [(h0, .inr (9, [.ref m0, .int 0, .int 0, .int 1, .ref m4, .ref m5, .ref m6, .ref m7, .ref m8, .ref m9, .ref m10, .ref m11, .ref m12, .int 0, .int 0, .ref m15, .ref m16, .ref m17, .ref m18, .ref m19, .ref m20, .int 0, .int (-1), .ref m23, .ref m24, .int 0, .int 0, .int 0, .ref m28, .int 0, .int 0, .int 0, .ref m32, .ref m33, .ref m34, .int 0, .ref m36, .ref m37, .ref m38, .ref m39, .ref m40, .ref m41, .ref m42, .int 0])), (m4, .inl (c4, 280, .inl f_37)), (m5, .inl (c5, 200, .inl f_39)), (m6, .inl (c6, 200, .inl f_40)), (m7, .inl (c7, 320, .inl (fun _ => 0))), (m8, .inl (c8, 8, .inl (fun _ => 0)))] H := hP
  have hD : va_D A [(h0, .inr (9, [.ref m0, .int 0, .int 0, .int 1, .ref m4, .ref m5, .ref m6, .ref m7, .ref m8, .ref m9, .ref m10, .ref m11, .ref m12, .int 0, .int 0, .ref m15, .ref m16, .ref m17, .ref m18, .ref m19, .ref m20, .int 0, .int (-1), .ref m23, .ref m24, .int 0, .int 0, .int 0, .ref m28, .int 0, .int 0, .int 0, .ref m32, .ref m33, .ref m34, .int 0, .ref m36, .ref m37, .ref m38, .ref m39, .ref m40, .ref m41, .ref m42, .int 0])), (m4, .inl (c4, 280, .inl f_37)), (m5, .inl (c5, 200, .inl f_39)), (m6, .inl (c6, 200, .inl f_40)), (m7, .inl (c7, 320, .inl (fun _ => 0))), (m8, .inl (c8, 8, .inl (fun _ => 0)))] := hD
  refine lv_iinc (v := 1) (lv' := [(7, .int 1), (6, .int 0), (0, .ref h0), (1, .int a1), (2, .int a2), (3, .int a3), (4, .int a4), (5, .int a5)]) hx hb dX9_lot_196 hl (k := 0) rfl (by decide) (by decide) rfl (fun ls hl => ?_)
  refine lv_goto (tgt := 162) hx hb dX9_lot_199 (by decide) ?_
  refine lv_iload hx hb dX9_lot_162 (lv_at hl 0 rfl) ?_
  refine lv_iconst (v := 5) hx hb dX9_lot_164 (by decide) ?_
  refine lv_icmp_ge (tgt := 202) hx hb dX9_lot_165 (by decide) (fun c_41 => absurd c_41 (by decide)) (fun c_41 => ?_)
  refine lv_aload_n hx hb dX9_lot_168 rfl (lv_at hl 2 rfl) ?_
  refine va_get (D := D) (ci := 9) (v := .ref m5) (C := RX9) (T := TX9) (N := 44) hx hb hts hin9 hown hK hP 0 rfl rfl 5 (by decide) (hts (.fieldLink RX9 26 "HoneyHouseModel" "low" "[I") (List.mem_of_getElem? (i := 4) rfl)) (fun _ h9 => h9) rfl dX9_lot_169 ?_
  refine lv_iconst (v := 5) hx hb dX9_lot_172 (by decide) ?_
  refine lv_iload hx hb dX9_lot_173 (lv_at hl 1 rfl) ?_
  refine lv_imul hx hb dX9_lot_175 ?_
  refine tp_i (y := 0) (by decide) ?_
  refine lv_iload hx hb dX9_lot_176 (lv_at hl 0 rfl) ?_
  refine lv_iadd hx hb dX9_lot_178 ?_
  refine tp_i (y := 1) (by decide) ?_
  refine lv_iconst (v := 0) hx hb dX9_lot_179 (by decide) ?_
  refine va_iast (f := f_39) (n := 200) hx hb hK hP hD hS 2 1 rfl rfl (vp_in_iff.mpr (by decide)) dX9_lot_180 (fun H locs hP hD hS => ?_)
  have hP : va_P D vwCl [(h0, .inr (9, [.ref m0, .int 0, .int 0, .int 1, .ref m4, .ref m5, .ref m6, .ref m7, .ref m8, .ref m9, .ref m10, .ref m11, .ref m12, .int 0, .int 0, .ref m15, .ref m16, .ref m17, .ref m18, .ref m19, .ref m20, .int 0, .int (-1), .ref m23, .ref m24, .int 0, .int 0, .int 0, .ref m28, .int 0, .int 0, .int 0, .ref m32, .ref m33, .ref m34, .int 0, .ref m36, .ref m37, .ref m38, .ref m39, .ref m40, .ref m41, .ref m42, .int 0])), (m4, .inl (c4, 280, .inl f_37)), (m5, .inl (c5, 200, .inl (upd f_39 1 0))), (m6, .inl (c6, 200, .inl f_40)), (m7, .inl (c7, 320, .inl (fun _ => 0))), (m8, .inl (c8, 8, .inl (fun _ => 0)))] H := hP
  have hD : va_D A [(h0, .inr (9, [.ref m0, .int 0, .int 0, .int 1, .ref m4, .ref m5, .ref m6, .ref m7, .ref m8, .ref m9, .ref m10, .ref m11, .ref m12, .int 0, .int 0, .ref m15, .ref m16, .ref m17, .ref m18, .ref m19, .ref m20, .int 0, .int (-1), .ref m23, .ref m24, .int 0, .int 0, .int 0, .ref m28, .int 0, .int 0, .int 0, .ref m32, .ref m33, .ref m34, .int 0, .ref m36, .ref m37, .ref m38, .ref m39, .ref m40, .ref m41, .ref m42, .int 0])), (m4, .inl (c4, 280, .inl f_37)), (m5, .inl (c5, 200, .inl (upd f_39 1 0))), (m6, .inl (c6, 200, .inl f_40)), (m7, .inl (c7, 320, .inl (fun _ => 0))), (m8, .inl (c8, 8, .inl (fun _ => 0)))] := hD
  generalize upd f_39 1 0 = f_42 at hP hD
  have hP : va_P D vwCl [(h0, .inr (9, [.ref m0, .int 0, .int 0, .int 1, .ref m4, .ref m5, .ref m6, .ref m7, .ref m8, .ref m9, .ref m10, .ref m11, .ref m12, .int 0, .int 0, .ref m15, .ref m16, .ref m17, .ref m18, .ref m19, .ref m20, .int 0, .int (-1), .ref m23, .ref m24, .int 0, .int 0, .int 0, .ref m28, .int 0, .int 0, .int 0, .ref m32, .ref m33, .ref m34, .int 0, .ref m36, .ref m37, .ref m38, .ref m39, .ref m40, .ref m41, .ref m42, .int 0])), (m4, .inl (c4, 280, .inl f_37)), (m5, .inl (c5, 200, .inl f_42)), (m6, .inl (c6, 200, .inl f_40)), (m7, .inl (c7, 320, .inl (fun _ => 0))), (m8, .inl (c8, 8, .inl (fun _ => 0)))] H := hP
  have hD : va_D A [(h0, .inr (9, [.ref m0, .int 0, .int 0, .int 1, .ref m4, .ref m5, .ref m6, .ref m7, .ref m8, .ref m9, .ref m10, .ref m11, .ref m12, .int 0, .int 0, .ref m15, .ref m16, .ref m17, .ref m18, .ref m19, .ref m20, .int 0, .int (-1), .ref m23, .ref m24, .int 0, .int 0, .int 0, .ref m28, .int 0, .int 0, .int 0, .ref m32, .ref m33, .ref m34, .int 0, .ref m36, .ref m37, .ref m38, .ref m39, .ref m40, .ref m41, .ref m42, .int 0])), (m4, .inl (c4, 280, .inl f_37)), (m5, .inl (c5, 200, .inl f_42)), (m6, .inl (c6, 200, .inl f_40)), (m7, .inl (c7, 320, .inl (fun _ => 0))), (m8, .inl (c8, 8, .inl (fun _ => 0)))] := hD
  refine lv_aload_n hx hb dX9_lot_181 rfl (lv_at hl 2 rfl) ?_
  refine va_get (D := D) (ci := 9) (v := .ref m6) (C := RX9) (T := TX9) (N := 44) hx hb hts hin9 hown hK hP 0 rfl rfl 6 (by decide) (hts (.fieldLink RX9 29 "HoneyHouseModel" "high" "[I") (List.mem_of_getElem? (i := 5) rfl)) (fun _ h9 => h9) rfl dX9_lot_182 ?_
  refine lv_iconst (v := 5) hx hb dX9_lot_185 (by decide) ?_
  refine lv_iload hx hb dX9_lot_186 (lv_at hl 1 rfl) ?_
  refine lv_imul hx hb dX9_lot_188 ?_
  refine tp_i (y := 0) (by decide) ?_
  refine lv_iload hx hb dX9_lot_189 (lv_at hl 0 rfl) ?_
  refine lv_iadd hx hb dX9_lot_191 ?_
  refine tp_i (y := 1) (by decide) ?_
  refine lv_sipush (v := 1000) hx hb dX9_lot_192 (by decide) ?_
  refine va_iast (f := f_40) (n := 200) hx hb hK hP hD hS 3 2 rfl rfl (vp_in_iff.mpr (by decide)) dX9_lot_195 (fun H locs hP hD hS => ?_)
  have hP : va_P D vwCl [(h0, .inr (9, [.ref m0, .int 0, .int 0, .int 1, .ref m4, .ref m5, .ref m6, .ref m7, .ref m8, .ref m9, .ref m10, .ref m11, .ref m12, .int 0, .int 0, .ref m15, .ref m16, .ref m17, .ref m18, .ref m19, .ref m20, .int 0, .int (-1), .ref m23, .ref m24, .int 0, .int 0, .int 0, .ref m28, .int 0, .int 0, .int 0, .ref m32, .ref m33, .ref m34, .int 0, .ref m36, .ref m37, .ref m38, .ref m39, .ref m40, .ref m41, .ref m42, .int 0])), (m4, .inl (c4, 280, .inl f_37)), (m5, .inl (c5, 200, .inl f_42)), (m6, .inl (c6, 200, .inl (upd f_40 1 1000))), (m7, .inl (c7, 320, .inl (fun _ => 0))), (m8, .inl (c8, 8, .inl (fun _ => 0)))] H := hP
  have hD : va_D A [(h0, .inr (9, [.ref m0, .int 0, .int 0, .int 1, .ref m4, .ref m5, .ref m6, .ref m7, .ref m8, .ref m9, .ref m10, .ref m11, .ref m12, .int 0, .int 0, .ref m15, .ref m16, .ref m17, .ref m18, .ref m19, .ref m20, .int 0, .int (-1), .ref m23, .ref m24, .int 0, .int 0, .int 0, .ref m28, .int 0, .int 0, .int 0, .ref m32, .ref m33, .ref m34, .int 0, .ref m36, .ref m37, .ref m38, .ref m39, .ref m40, .ref m41, .ref m42, .int 0])), (m4, .inl (c4, 280, .inl f_37)), (m5, .inl (c5, 200, .inl f_42)), (m6, .inl (c6, 200, .inl (upd f_40 1 1000))), (m7, .inl (c7, 320, .inl (fun _ => 0))), (m8, .inl (c8, 8, .inl (fun _ => 0)))] := hD
  generalize upd f_40 1 1000 = f_43 at hP hD
  have hP : va_P D vwCl [(h0, .inr (9, [.ref m0, .int 0, .int 0, .int 1, .ref m4, .ref m5, .ref m6, .ref m7, .ref m8, .ref m9, .ref m10, .ref m11, .ref m12, .int 0, .int 0, .ref m15, .ref m16, .ref m17, .ref m18, .ref m19, .ref m20, .int 0, .int (-1), .ref m23, .ref m24, .int 0, .int 0, .int 0, .ref m28, .int 0, .int 0, .int 0, .ref m32, .ref m33, .ref m34, .int 0, .ref m36, .ref m37, .ref m38, .ref m39, .ref m40, .ref m41, .ref m42, .int 0])), (m4, .inl (c4, 280, .inl f_37)), (m5, .inl (c5, 200, .inl f_42)), (m6, .inl (c6, 200, .inl f_43)), (m7, .inl (c7, 320, .inl (fun _ => 0))), (m8, .inl (c8, 8, .inl (fun _ => 0)))] H := hP
  have hD : va_D A [(h0, .inr (9, [.ref m0, .int 0, .int 0, .int 1, .ref m4, .ref m5, .ref m6, .ref m7, .ref m8, .ref m9, .ref m10, .ref m11, .ref m12, .int 0, .int 0, .ref m15, .ref m16, .ref m17, .ref m18, .ref m19, .ref m20, .int 0, .int (-1), .ref m23, .ref m24, .int 0, .int 0, .int 0, .ref m28, .int 0, .int 0, .int 0, .ref m32, .ref m33, .ref m34, .int 0, .ref m36, .ref m37, .ref m38, .ref m39, .ref m40, .ref m41, .ref m42, .int 0])), (m4, .inl (c4, 280, .inl f_37)), (m5, .inl (c5, 200, .inl f_42)), (m6, .inl (c6, 200, .inl f_43)), (m7, .inl (c7, 320, .inl (fun _ => 0))), (m8, .inl (c8, 8, .inl (fun _ => 0)))] := hD
  refine lv_iinc (v := 2) (lv' := [(7, .int 2), (6, .int 0), (0, .ref h0), (1, .int a1), (2, .int a2), (3, .int a3), (4, .int a4), (5, .int a5)]) hx hb dX9_lot_196 hl (k := 0) rfl (by decide) (by decide) rfl (fun ls hl => ?_)
  refine lv_goto (tgt := 162) hx hb dX9_lot_199 (by decide) ?_
  refine lv_iload hx hb dX9_lot_162 (lv_at hl 0 rfl) ?_
  refine lv_iconst (v := 5) hx hb dX9_lot_164 (by decide) ?_
  refine lv_icmp_ge (tgt := 202) hx hb dX9_lot_165 (by decide) (fun c_44 => absurd c_44 (by decide)) (fun c_44 => ?_)
  refine lv_aload_n hx hb dX9_lot_168 rfl (lv_at hl 2 rfl) ?_
  refine va_get (D := D) (ci := 9) (v := .ref m5) (C := RX9) (T := TX9) (N := 44) hx hb hts hin9 hown hK hP 0 rfl rfl 5 (by decide) (hts (.fieldLink RX9 26 "HoneyHouseModel" "low" "[I") (List.mem_of_getElem? (i := 4) rfl)) (fun _ h9 => h9) rfl dX9_lot_169 ?_
  refine lv_iconst (v := 5) hx hb dX9_lot_172 (by decide) ?_
  refine lv_iload hx hb dX9_lot_173 (lv_at hl 1 rfl) ?_
  refine lv_imul hx hb dX9_lot_175 ?_
  refine tp_i (y := 0) (by decide) ?_
  refine lv_iload hx hb dX9_lot_176 (lv_at hl 0 rfl) ?_
  refine lv_iadd hx hb dX9_lot_178 ?_
  refine tp_i (y := 2) (by decide) ?_
  refine lv_iconst (v := 0) hx hb dX9_lot_179 (by decide) ?_
  refine va_iast (f := f_42) (n := 200) hx hb hK hP hD hS 2 1 rfl rfl (vp_in_iff.mpr (by decide)) dX9_lot_180 (fun H locs hP hD hS => ?_)
  have hP : va_P D vwCl [(h0, .inr (9, [.ref m0, .int 0, .int 0, .int 1, .ref m4, .ref m5, .ref m6, .ref m7, .ref m8, .ref m9, .ref m10, .ref m11, .ref m12, .int 0, .int 0, .ref m15, .ref m16, .ref m17, .ref m18, .ref m19, .ref m20, .int 0, .int (-1), .ref m23, .ref m24, .int 0, .int 0, .int 0, .ref m28, .int 0, .int 0, .int 0, .ref m32, .ref m33, .ref m34, .int 0, .ref m36, .ref m37, .ref m38, .ref m39, .ref m40, .ref m41, .ref m42, .int 0])), (m4, .inl (c4, 280, .inl f_37)), (m5, .inl (c5, 200, .inl (upd f_42 2 0))), (m6, .inl (c6, 200, .inl f_43)), (m7, .inl (c7, 320, .inl (fun _ => 0))), (m8, .inl (c8, 8, .inl (fun _ => 0)))] H := hP
  have hD : va_D A [(h0, .inr (9, [.ref m0, .int 0, .int 0, .int 1, .ref m4, .ref m5, .ref m6, .ref m7, .ref m8, .ref m9, .ref m10, .ref m11, .ref m12, .int 0, .int 0, .ref m15, .ref m16, .ref m17, .ref m18, .ref m19, .ref m20, .int 0, .int (-1), .ref m23, .ref m24, .int 0, .int 0, .int 0, .ref m28, .int 0, .int 0, .int 0, .ref m32, .ref m33, .ref m34, .int 0, .ref m36, .ref m37, .ref m38, .ref m39, .ref m40, .ref m41, .ref m42, .int 0])), (m4, .inl (c4, 280, .inl f_37)), (m5, .inl (c5, 200, .inl (upd f_42 2 0))), (m6, .inl (c6, 200, .inl f_43)), (m7, .inl (c7, 320, .inl (fun _ => 0))), (m8, .inl (c8, 8, .inl (fun _ => 0)))] := hD
  generalize upd f_42 2 0 = f_45 at hP hD
  have hP : va_P D vwCl [(h0, .inr (9, [.ref m0, .int 0, .int 0, .int 1, .ref m4, .ref m5, .ref m6, .ref m7, .ref m8, .ref m9, .ref m10, .ref m11, .ref m12, .int 0, .int 0, .ref m15, .ref m16, .ref m17, .ref m18, .ref m19, .ref m20, .int 0, .int (-1), .ref m23, .ref m24, .int 0, .int 0, .int 0, .ref m28, .int 0, .int 0, .int 0, .ref m32, .ref m33, .ref m34, .int 0, .ref m36, .ref m37, .ref m38, .ref m39, .ref m40, .ref m41, .ref m42, .int 0])), (m4, .inl (c4, 280, .inl f_37)), (m5, .inl (c5, 200, .inl f_45)), (m6, .inl (c6, 200, .inl f_43)), (m7, .inl (c7, 320, .inl (fun _ => 0))), (m8, .inl (c8, 8, .inl (fun _ => 0)))] H := hP
  have hD : va_D A [(h0, .inr (9, [.ref m0, .int 0, .int 0, .int 1, .ref m4, .ref m5, .ref m6, .ref m7, .ref m8, .ref m9, .ref m10, .ref m11, .ref m12, .int 0, .int 0, .ref m15, .ref m16, .ref m17, .ref m18, .ref m19, .ref m20, .int 0, .int (-1), .ref m23, .ref m24, .int 0, .int 0, .int 0, .ref m28, .int 0, .int 0, .int 0, .ref m32, .ref m33, .ref m34, .int 0, .ref m36, .ref m37, .ref m38, .ref m39, .ref m40, .ref m41, .ref m42, .int 0])), (m4, .inl (c4, 280, .inl f_37)), (m5, .inl (c5, 200, .inl f_45)), (m6, .inl (c6, 200, .inl f_43)), (m7, .inl (c7, 320, .inl (fun _ => 0))), (m8, .inl (c8, 8, .inl (fun _ => 0)))] := hD
  refine lv_aload_n hx hb dX9_lot_181 rfl (lv_at hl 2 rfl) ?_
  refine va_get (D := D) (ci := 9) (v := .ref m6) (C := RX9) (T := TX9) (N := 44) hx hb hts hin9 hown hK hP 0 rfl rfl 6 (by decide) (hts (.fieldLink RX9 29 "HoneyHouseModel" "high" "[I") (List.mem_of_getElem? (i := 5) rfl)) (fun _ h9 => h9) rfl dX9_lot_182 ?_
  refine lv_iconst (v := 5) hx hb dX9_lot_185 (by decide) ?_
  refine lv_iload hx hb dX9_lot_186 (lv_at hl 1 rfl) ?_
  refine lv_imul hx hb dX9_lot_188 ?_
  refine tp_i (y := 0) (by decide) ?_
  refine lv_iload hx hb dX9_lot_189 (lv_at hl 0 rfl) ?_
  refine lv_iadd hx hb dX9_lot_191 ?_
  refine tp_i (y := 2) (by decide) ?_
  refine lv_sipush (v := 1000) hx hb dX9_lot_192 (by decide) ?_
  refine va_iast (f := f_43) (n := 200) hx hb hK hP hD hS 3 2 rfl rfl (vp_in_iff.mpr (by decide)) dX9_lot_195 (fun H locs hP hD hS => ?_)
  have hP : va_P D vwCl [(h0, .inr (9, [.ref m0, .int 0, .int 0, .int 1, .ref m4, .ref m5, .ref m6, .ref m7, .ref m8, .ref m9, .ref m10, .ref m11, .ref m12, .int 0, .int 0, .ref m15, .ref m16, .ref m17, .ref m18, .ref m19, .ref m20, .int 0, .int (-1), .ref m23, .ref m24, .int 0, .int 0, .int 0, .ref m28, .int 0, .int 0, .int 0, .ref m32, .ref m33, .ref m34, .int 0, .ref m36, .ref m37, .ref m38, .ref m39, .ref m40, .ref m41, .ref m42, .int 0])), (m4, .inl (c4, 280, .inl f_37)), (m5, .inl (c5, 200, .inl f_45)), (m6, .inl (c6, 200, .inl (upd f_43 2 1000))), (m7, .inl (c7, 320, .inl (fun _ => 0))), (m8, .inl (c8, 8, .inl (fun _ => 0)))] H := hP
  have hD : va_D A [(h0, .inr (9, [.ref m0, .int 0, .int 0, .int 1, .ref m4, .ref m5, .ref m6, .ref m7, .ref m8, .ref m9, .ref m10, .ref m11, .ref m12, .int 0, .int 0, .ref m15, .ref m16, .ref m17, .ref m18, .ref m19, .ref m20, .int 0, .int (-1), .ref m23, .ref m24, .int 0, .int 0, .int 0, .ref m28, .int 0, .int 0, .int 0, .ref m32, .ref m33, .ref m34, .int 0, .ref m36, .ref m37, .ref m38, .ref m39, .ref m40, .ref m41, .ref m42, .int 0])), (m4, .inl (c4, 280, .inl f_37)), (m5, .inl (c5, 200, .inl f_45)), (m6, .inl (c6, 200, .inl (upd f_43 2 1000))), (m7, .inl (c7, 320, .inl (fun _ => 0))), (m8, .inl (c8, 8, .inl (fun _ => 0)))] := hD
  generalize upd f_43 2 1000 = f_46 at hP hD
  have hP : va_P D vwCl [(h0, .inr (9, [.ref m0, .int 0, .int 0, .int 1, .ref m4, .ref m5, .ref m6, .ref m7, .ref m8, .ref m9, .ref m10, .ref m11, .ref m12, .int 0, .int 0, .ref m15, .ref m16, .ref m17, .ref m18, .ref m19, .ref m20, .int 0, .int (-1), .ref m23, .ref m24, .int 0, .int 0, .int 0, .ref m28, .int 0, .int 0, .int 0, .ref m32, .ref m33, .ref m34, .int 0, .ref m36, .ref m37, .ref m38, .ref m39, .ref m40, .ref m41, .ref m42, .int 0])), (m4, .inl (c4, 280, .inl f_37)), (m5, .inl (c5, 200, .inl f_45)), (m6, .inl (c6, 200, .inl f_46)), (m7, .inl (c7, 320, .inl (fun _ => 0))), (m8, .inl (c8, 8, .inl (fun _ => 0)))] H := hP
  have hD : va_D A [(h0, .inr (9, [.ref m0, .int 0, .int 0, .int 1, .ref m4, .ref m5, .ref m6, .ref m7, .ref m8, .ref m9, .ref m10, .ref m11, .ref m12, .int 0, .int 0, .ref m15, .ref m16, .ref m17, .ref m18, .ref m19, .ref m20, .int 0, .int (-1), .ref m23, .ref m24, .int 0, .int 0, .int 0, .ref m28, .int 0, .int 0, .int 0, .ref m32, .ref m33, .ref m34, .int 0, .ref m36, .ref m37, .ref m38, .ref m39, .ref m40, .ref m41, .ref m42, .int 0])), (m4, .inl (c4, 280, .inl f_37)), (m5, .inl (c5, 200, .inl f_45)), (m6, .inl (c6, 200, .inl f_46)), (m7, .inl (c7, 320, .inl (fun _ => 0))), (m8, .inl (c8, 8, .inl (fun _ => 0)))] := hD
  refine lv_iinc (v := 3) (lv' := [(7, .int 3), (6, .int 0), (0, .ref h0), (1, .int a1), (2, .int a2), (3, .int a3), (4, .int a4), (5, .int a5)]) hx hb dX9_lot_196 hl (k := 0) rfl (by decide) (by decide) rfl (fun ls hl => ?_)
  refine lv_goto (tgt := 162) hx hb dX9_lot_199 (by decide) ?_
  refine lv_iload hx hb dX9_lot_162 (lv_at hl 0 rfl) ?_
  refine lv_iconst (v := 5) hx hb dX9_lot_164 (by decide) ?_
  refine lv_icmp_ge (tgt := 202) hx hb dX9_lot_165 (by decide) (fun c_47 => absurd c_47 (by decide)) (fun c_47 => ?_)
  refine lv_aload_n hx hb dX9_lot_168 rfl (lv_at hl 2 rfl) ?_
  refine va_get (D := D) (ci := 9) (v := .ref m5) (C := RX9) (T := TX9) (N := 44) hx hb hts hin9 hown hK hP 0 rfl rfl 5 (by decide) (hts (.fieldLink RX9 26 "HoneyHouseModel" "low" "[I") (List.mem_of_getElem? (i := 4) rfl)) (fun _ h9 => h9) rfl dX9_lot_169 ?_
  refine lv_iconst (v := 5) hx hb dX9_lot_172 (by decide) ?_
  refine lv_iload hx hb dX9_lot_173 (lv_at hl 1 rfl) ?_
  refine lv_imul hx hb dX9_lot_175 ?_
  refine tp_i (y := 0) (by decide) ?_
  refine lv_iload hx hb dX9_lot_176 (lv_at hl 0 rfl) ?_
  refine lv_iadd hx hb dX9_lot_178 ?_
  refine tp_i (y := 3) (by decide) ?_
  refine lv_iconst (v := 0) hx hb dX9_lot_179 (by decide) ?_
  refine va_iast (f := f_45) (n := 200) hx hb hK hP hD hS 2 1 rfl rfl (vp_in_iff.mpr (by decide)) dX9_lot_180 (fun H locs hP hD hS => ?_)
  have hP : va_P D vwCl [(h0, .inr (9, [.ref m0, .int 0, .int 0, .int 1, .ref m4, .ref m5, .ref m6, .ref m7, .ref m8, .ref m9, .ref m10, .ref m11, .ref m12, .int 0, .int 0, .ref m15, .ref m16, .ref m17, .ref m18, .ref m19, .ref m20, .int 0, .int (-1), .ref m23, .ref m24, .int 0, .int 0, .int 0, .ref m28, .int 0, .int 0, .int 0, .ref m32, .ref m33, .ref m34, .int 0, .ref m36, .ref m37, .ref m38, .ref m39, .ref m40, .ref m41, .ref m42, .int 0])), (m4, .inl (c4, 280, .inl f_37)), (m5, .inl (c5, 200, .inl (upd f_45 3 0))), (m6, .inl (c6, 200, .inl f_46)), (m7, .inl (c7, 320, .inl (fun _ => 0))), (m8, .inl (c8, 8, .inl (fun _ => 0)))] H := hP
  have hD : va_D A [(h0, .inr (9, [.ref m0, .int 0, .int 0, .int 1, .ref m4, .ref m5, .ref m6, .ref m7, .ref m8, .ref m9, .ref m10, .ref m11, .ref m12, .int 0, .int 0, .ref m15, .ref m16, .ref m17, .ref m18, .ref m19, .ref m20, .int 0, .int (-1), .ref m23, .ref m24, .int 0, .int 0, .int 0, .ref m28, .int 0, .int 0, .int 0, .ref m32, .ref m33, .ref m34, .int 0, .ref m36, .ref m37, .ref m38, .ref m39, .ref m40, .ref m41, .ref m42, .int 0])), (m4, .inl (c4, 280, .inl f_37)), (m5, .inl (c5, 200, .inl (upd f_45 3 0))), (m6, .inl (c6, 200, .inl f_46)), (m7, .inl (c7, 320, .inl (fun _ => 0))), (m8, .inl (c8, 8, .inl (fun _ => 0)))] := hD
  generalize upd f_45 3 0 = f_48 at hP hD
  have hP : va_P D vwCl [(h0, .inr (9, [.ref m0, .int 0, .int 0, .int 1, .ref m4, .ref m5, .ref m6, .ref m7, .ref m8, .ref m9, .ref m10, .ref m11, .ref m12, .int 0, .int 0, .ref m15, .ref m16, .ref m17, .ref m18, .ref m19, .ref m20, .int 0, .int (-1), .ref m23, .ref m24, .int 0, .int 0, .int 0, .ref m28, .int 0, .int 0, .int 0, .ref m32, .ref m33, .ref m34, .int 0, .ref m36, .ref m37, .ref m38, .ref m39, .ref m40, .ref m41, .ref m42, .int 0])), (m4, .inl (c4, 280, .inl f_37)), (m5, .inl (c5, 200, .inl f_48)), (m6, .inl (c6, 200, .inl f_46)), (m7, .inl (c7, 320, .inl (fun _ => 0))), (m8, .inl (c8, 8, .inl (fun _ => 0)))] H := hP
  have hD : va_D A [(h0, .inr (9, [.ref m0, .int 0, .int 0, .int 1, .ref m4, .ref m5, .ref m6, .ref m7, .ref m8, .ref m9, .ref m10, .ref m11, .ref m12, .int 0, .int 0, .ref m15, .ref m16, .ref m17, .ref m18, .ref m19, .ref m20, .int 0, .int (-1), .ref m23, .ref m24, .int 0, .int 0, .int 0, .ref m28, .int 0, .int 0, .int 0, .ref m32, .ref m33, .ref m34, .int 0, .ref m36, .ref m37, .ref m38, .ref m39, .ref m40, .ref m41, .ref m42, .int 0])), (m4, .inl (c4, 280, .inl f_37)), (m5, .inl (c5, 200, .inl f_48)), (m6, .inl (c6, 200, .inl f_46)), (m7, .inl (c7, 320, .inl (fun _ => 0))), (m8, .inl (c8, 8, .inl (fun _ => 0)))] := hD
  refine lv_aload_n hx hb dX9_lot_181 rfl (lv_at hl 2 rfl) ?_
  refine va_get (D := D) (ci := 9) (v := .ref m6) (C := RX9) (T := TX9) (N := 44) hx hb hts hin9 hown hK hP 0 rfl rfl 6 (by decide) (hts (.fieldLink RX9 29 "HoneyHouseModel" "high" "[I") (List.mem_of_getElem? (i := 5) rfl)) (fun _ h9 => h9) rfl dX9_lot_182 ?_
  refine lv_iconst (v := 5) hx hb dX9_lot_185 (by decide) ?_
  refine lv_iload hx hb dX9_lot_186 (lv_at hl 1 rfl) ?_
  refine lv_imul hx hb dX9_lot_188 ?_
  refine tp_i (y := 0) (by decide) ?_
  refine lv_iload hx hb dX9_lot_189 (lv_at hl 0 rfl) ?_
  refine lv_iadd hx hb dX9_lot_191 ?_
  refine tp_i (y := 3) (by decide) ?_
  refine lv_sipush (v := 1000) hx hb dX9_lot_192 (by decide) ?_
  refine va_iast (f := f_46) (n := 200) hx hb hK hP hD hS 3 2 rfl rfl (vp_in_iff.mpr (by decide)) dX9_lot_195 (fun H locs hP hD hS => ?_)
  have hP : va_P D vwCl [(h0, .inr (9, [.ref m0, .int 0, .int 0, .int 1, .ref m4, .ref m5, .ref m6, .ref m7, .ref m8, .ref m9, .ref m10, .ref m11, .ref m12, .int 0, .int 0, .ref m15, .ref m16, .ref m17, .ref m18, .ref m19, .ref m20, .int 0, .int (-1), .ref m23, .ref m24, .int 0, .int 0, .int 0, .ref m28, .int 0, .int 0, .int 0, .ref m32, .ref m33, .ref m34, .int 0, .ref m36, .ref m37, .ref m38, .ref m39, .ref m40, .ref m41, .ref m42, .int 0])), (m4, .inl (c4, 280, .inl f_37)), (m5, .inl (c5, 200, .inl f_48)), (m6, .inl (c6, 200, .inl (upd f_46 3 1000))), (m7, .inl (c7, 320, .inl (fun _ => 0))), (m8, .inl (c8, 8, .inl (fun _ => 0)))] H := hP
  have hD : va_D A [(h0, .inr (9, [.ref m0, .int 0, .int 0, .int 1, .ref m4, .ref m5, .ref m6, .ref m7, .ref m8, .ref m9, .ref m10, .ref m11, .ref m12, .int 0, .int 0, .ref m15, .ref m16, .ref m17, .ref m18, .ref m19, .ref m20, .int 0, .int (-1), .ref m23, .ref m24, .int 0, .int 0, .int 0, .ref m28, .int 0, .int 0, .int 0, .ref m32, .ref m33, .ref m34, .int 0, .ref m36, .ref m37, .ref m38, .ref m39, .ref m40, .ref m41, .ref m42, .int 0])), (m4, .inl (c4, 280, .inl f_37)), (m5, .inl (c5, 200, .inl f_48)), (m6, .inl (c6, 200, .inl (upd f_46 3 1000))), (m7, .inl (c7, 320, .inl (fun _ => 0))), (m8, .inl (c8, 8, .inl (fun _ => 0)))] := hD
  generalize upd f_46 3 1000 = f_49 at hP hD
  have hP : va_P D vwCl [(h0, .inr (9, [.ref m0, .int 0, .int 0, .int 1, .ref m4, .ref m5, .ref m6, .ref m7, .ref m8, .ref m9, .ref m10, .ref m11, .ref m12, .int 0, .int 0, .ref m15, .ref m16, .ref m17, .ref m18, .ref m19, .ref m20, .int 0, .int (-1), .ref m23, .ref m24, .int 0, .int 0, .int 0, .ref m28, .int 0, .int 0, .int 0, .ref m32, .ref m33, .ref m34, .int 0, .ref m36, .ref m37, .ref m38, .ref m39, .ref m40, .ref m41, .ref m42, .int 0])), (m4, .inl (c4, 280, .inl f_37)), (m5, .inl (c5, 200, .inl f_48)), (m6, .inl (c6, 200, .inl f_49)), (m7, .inl (c7, 320, .inl (fun _ => 0))), (m8, .inl (c8, 8, .inl (fun _ => 0)))] H := hP
  have hD : va_D A [(h0, .inr (9, [.ref m0, .int 0, .int 0, .int 1, .ref m4, .ref m5, .ref m6, .ref m7, .ref m8, .ref m9, .ref m10, .ref m11, .ref m12, .int 0, .int 0, .ref m15, .ref m16, .ref m17, .ref m18, .ref m19, .ref m20, .int 0, .int (-1), .ref m23, .ref m24, .int 0, .int 0, .int 0, .ref m28, .int 0, .int 0, .int 0, .ref m32, .ref m33, .ref m34, .int 0, .ref m36, .ref m37, .ref m38, .ref m39, .ref m40, .ref m41, .ref m42, .int 0])), (m4, .inl (c4, 280, .inl f_37)), (m5, .inl (c5, 200, .inl f_48)), (m6, .inl (c6, 200, .inl f_49)), (m7, .inl (c7, 320, .inl (fun _ => 0))), (m8, .inl (c8, 8, .inl (fun _ => 0)))] := hD
  refine lv_iinc (v := 4) (lv' := [(7, .int 4), (6, .int 0), (0, .ref h0), (1, .int a1), (2, .int a2), (3, .int a3), (4, .int a4), (5, .int a5)]) hx hb dX9_lot_196 hl (k := 0) rfl (by decide) (by decide) rfl (fun ls hl => ?_)
  refine lv_goto (tgt := 162) hx hb dX9_lot_199 (by decide) ?_
  refine lv_iload hx hb dX9_lot_162 (lv_at hl 0 rfl) ?_
  refine lv_iconst (v := 5) hx hb dX9_lot_164 (by decide) ?_
  refine lv_icmp_ge (tgt := 202) hx hb dX9_lot_165 (by decide) (fun c_50 => absurd c_50 (by decide)) (fun c_50 => ?_)
  refine lv_aload_n hx hb dX9_lot_168 rfl (lv_at hl 2 rfl) ?_
  refine va_get (D := D) (ci := 9) (v := .ref m5) (C := RX9) (T := TX9) (N := 44) hx hb hts hin9 hown hK hP 0 rfl rfl 5 (by decide) (hts (.fieldLink RX9 26 "HoneyHouseModel" "low" "[I") (List.mem_of_getElem? (i := 4) rfl)) (fun _ h9 => h9) rfl dX9_lot_169 ?_
  refine lv_iconst (v := 5) hx hb dX9_lot_172 (by decide) ?_
  refine lv_iload hx hb dX9_lot_173 (lv_at hl 1 rfl) ?_
  refine lv_imul hx hb dX9_lot_175 ?_
  refine tp_i (y := 0) (by decide) ?_
  refine lv_iload hx hb dX9_lot_176 (lv_at hl 0 rfl) ?_
  refine lv_iadd hx hb dX9_lot_178 ?_
  refine tp_i (y := 4) (by decide) ?_
  refine lv_iconst (v := 0) hx hb dX9_lot_179 (by decide) ?_
  refine va_iast (f := f_48) (n := 200) hx hb hK hP hD hS 2 1 rfl rfl (vp_in_iff.mpr (by decide)) dX9_lot_180 (fun H locs hP hD hS => ?_)
  have hP : va_P D vwCl [(h0, .inr (9, [.ref m0, .int 0, .int 0, .int 1, .ref m4, .ref m5, .ref m6, .ref m7, .ref m8, .ref m9, .ref m10, .ref m11, .ref m12, .int 0, .int 0, .ref m15, .ref m16, .ref m17, .ref m18, .ref m19, .ref m20, .int 0, .int (-1), .ref m23, .ref m24, .int 0, .int 0, .int 0, .ref m28, .int 0, .int 0, .int 0, .ref m32, .ref m33, .ref m34, .int 0, .ref m36, .ref m37, .ref m38, .ref m39, .ref m40, .ref m41, .ref m42, .int 0])), (m4, .inl (c4, 280, .inl f_37)), (m5, .inl (c5, 200, .inl (upd f_48 4 0))), (m6, .inl (c6, 200, .inl f_49)), (m7, .inl (c7, 320, .inl (fun _ => 0))), (m8, .inl (c8, 8, .inl (fun _ => 0)))] H := hP
  have hD : va_D A [(h0, .inr (9, [.ref m0, .int 0, .int 0, .int 1, .ref m4, .ref m5, .ref m6, .ref m7, .ref m8, .ref m9, .ref m10, .ref m11, .ref m12, .int 0, .int 0, .ref m15, .ref m16, .ref m17, .ref m18, .ref m19, .ref m20, .int 0, .int (-1), .ref m23, .ref m24, .int 0, .int 0, .int 0, .ref m28, .int 0, .int 0, .int 0, .ref m32, .ref m33, .ref m34, .int 0, .ref m36, .ref m37, .ref m38, .ref m39, .ref m40, .ref m41, .ref m42, .int 0])), (m4, .inl (c4, 280, .inl f_37)), (m5, .inl (c5, 200, .inl (upd f_48 4 0))), (m6, .inl (c6, 200, .inl f_49)), (m7, .inl (c7, 320, .inl (fun _ => 0))), (m8, .inl (c8, 8, .inl (fun _ => 0)))] := hD
  generalize upd f_48 4 0 = f_51 at hP hD
  have hP : va_P D vwCl [(h0, .inr (9, [.ref m0, .int 0, .int 0, .int 1, .ref m4, .ref m5, .ref m6, .ref m7, .ref m8, .ref m9, .ref m10, .ref m11, .ref m12, .int 0, .int 0, .ref m15, .ref m16, .ref m17, .ref m18, .ref m19, .ref m20, .int 0, .int (-1), .ref m23, .ref m24, .int 0, .int 0, .int 0, .ref m28, .int 0, .int 0, .int 0, .ref m32, .ref m33, .ref m34, .int 0, .ref m36, .ref m37, .ref m38, .ref m39, .ref m40, .ref m41, .ref m42, .int 0])), (m4, .inl (c4, 280, .inl f_37)), (m5, .inl (c5, 200, .inl f_51)), (m6, .inl (c6, 200, .inl f_49)), (m7, .inl (c7, 320, .inl (fun _ => 0))), (m8, .inl (c8, 8, .inl (fun _ => 0)))] H := hP
  have hD : va_D A [(h0, .inr (9, [.ref m0, .int 0, .int 0, .int 1, .ref m4, .ref m5, .ref m6, .ref m7, .ref m8, .ref m9, .ref m10, .ref m11, .ref m12, .int 0, .int 0, .ref m15, .ref m16, .ref m17, .ref m18, .ref m19, .ref m20, .int 0, .int (-1), .ref m23, .ref m24, .int 0, .int 0, .int 0, .ref m28, .int 0, .int 0, .int 0, .ref m32, .ref m33, .ref m34, .int 0, .ref m36, .ref m37, .ref m38, .ref m39, .ref m40, .ref m41, .ref m42, .int 0])), (m4, .inl (c4, 280, .inl f_37)), (m5, .inl (c5, 200, .inl f_51)), (m6, .inl (c6, 200, .inl f_49)), (m7, .inl (c7, 320, .inl (fun _ => 0))), (m8, .inl (c8, 8, .inl (fun _ => 0)))] := hD
  refine lv_aload_n hx hb dX9_lot_181 rfl (lv_at hl 2 rfl) ?_
  refine va_get (D := D) (ci := 9) (v := .ref m6) (C := RX9) (T := TX9) (N := 44) hx hb hts hin9 hown hK hP 0 rfl rfl 6 (by decide) (hts (.fieldLink RX9 29 "HoneyHouseModel" "high" "[I") (List.mem_of_getElem? (i := 5) rfl)) (fun _ h9 => h9) rfl dX9_lot_182 ?_
  refine lv_iconst (v := 5) hx hb dX9_lot_185 (by decide) ?_
  refine lv_iload hx hb dX9_lot_186 (lv_at hl 1 rfl) ?_
  refine lv_imul hx hb dX9_lot_188 ?_
  refine tp_i (y := 0) (by decide) ?_
  refine lv_iload hx hb dX9_lot_189 (lv_at hl 0 rfl) ?_
  refine lv_iadd hx hb dX9_lot_191 ?_
  refine tp_i (y := 4) (by decide) ?_
  refine lv_sipush (v := 1000) hx hb dX9_lot_192 (by decide) ?_
  refine va_iast (f := f_49) (n := 200) hx hb hK hP hD hS 3 2 rfl rfl (vp_in_iff.mpr (by decide)) dX9_lot_195 (fun H locs hP hD hS => ?_)
  have hP : va_P D vwCl [(h0, .inr (9, [.ref m0, .int 0, .int 0, .int 1, .ref m4, .ref m5, .ref m6, .ref m7, .ref m8, .ref m9, .ref m10, .ref m11, .ref m12, .int 0, .int 0, .ref m15, .ref m16, .ref m17, .ref m18, .ref m19, .ref m20, .int 0, .int (-1), .ref m23, .ref m24, .int 0, .int 0, .int 0, .ref m28, .int 0, .int 0, .int 0, .ref m32, .ref m33, .ref m34, .int 0, .ref m36, .ref m37, .ref m38, .ref m39, .ref m40, .ref m41, .ref m42, .int 0])), (m4, .inl (c4, 280, .inl f_37)), (m5, .inl (c5, 200, .inl f_51)), (m6, .inl (c6, 200, .inl (upd f_49 4 1000))), (m7, .inl (c7, 320, .inl (fun _ => 0))), (m8, .inl (c8, 8, .inl (fun _ => 0)))] H := hP
  have hD : va_D A [(h0, .inr (9, [.ref m0, .int 0, .int 0, .int 1, .ref m4, .ref m5, .ref m6, .ref m7, .ref m8, .ref m9, .ref m10, .ref m11, .ref m12, .int 0, .int 0, .ref m15, .ref m16, .ref m17, .ref m18, .ref m19, .ref m20, .int 0, .int (-1), .ref m23, .ref m24, .int 0, .int 0, .int 0, .ref m28, .int 0, .int 0, .int 0, .ref m32, .ref m33, .ref m34, .int 0, .ref m36, .ref m37, .ref m38, .ref m39, .ref m40, .ref m41, .ref m42, .int 0])), (m4, .inl (c4, 280, .inl f_37)), (m5, .inl (c5, 200, .inl f_51)), (m6, .inl (c6, 200, .inl (upd f_49 4 1000))), (m7, .inl (c7, 320, .inl (fun _ => 0))), (m8, .inl (c8, 8, .inl (fun _ => 0)))] := hD
  generalize upd f_49 4 1000 = f_52 at hP hD
  have hP : va_P D vwCl [(h0, .inr (9, [.ref m0, .int 0, .int 0, .int 1, .ref m4, .ref m5, .ref m6, .ref m7, .ref m8, .ref m9, .ref m10, .ref m11, .ref m12, .int 0, .int 0, .ref m15, .ref m16, .ref m17, .ref m18, .ref m19, .ref m20, .int 0, .int (-1), .ref m23, .ref m24, .int 0, .int 0, .int 0, .ref m28, .int 0, .int 0, .int 0, .ref m32, .ref m33, .ref m34, .int 0, .ref m36, .ref m37, .ref m38, .ref m39, .ref m40, .ref m41, .ref m42, .int 0])), (m4, .inl (c4, 280, .inl f_37)), (m5, .inl (c5, 200, .inl f_51)), (m6, .inl (c6, 200, .inl f_52)), (m7, .inl (c7, 320, .inl (fun _ => 0))), (m8, .inl (c8, 8, .inl (fun _ => 0)))] H := hP
  have hD : va_D A [(h0, .inr (9, [.ref m0, .int 0, .int 0, .int 1, .ref m4, .ref m5, .ref m6, .ref m7, .ref m8, .ref m9, .ref m10, .ref m11, .ref m12, .int 0, .int 0, .ref m15, .ref m16, .ref m17, .ref m18, .ref m19, .ref m20, .int 0, .int (-1), .ref m23, .ref m24, .int 0, .int 0, .int 0, .ref m28, .int 0, .int 0, .int 0, .ref m32, .ref m33, .ref m34, .int 0, .ref m36, .ref m37, .ref m38, .ref m39, .ref m40, .ref m41, .ref m42, .int 0])), (m4, .inl (c4, 280, .inl f_37)), (m5, .inl (c5, 200, .inl f_51)), (m6, .inl (c6, 200, .inl f_52)), (m7, .inl (c7, 320, .inl (fun _ => 0))), (m8, .inl (c8, 8, .inl (fun _ => 0)))] := hD
  refine lv_iinc (v := 5) (lv' := [(7, .int 5), (6, .int 0), (0, .ref h0), (1, .int a1), (2, .int a2), (3, .int a3), (4, .int a4), (5, .int a5)]) hx hb dX9_lot_196 hl (k := 0) rfl (by decide) (by decide) rfl (fun ls hl => ?_)
  refine lv_goto (tgt := 162) hx hb dX9_lot_199 (by decide) ?_
  refine lv_iload hx hb dX9_lot_162 (lv_at hl 0 rfl) ?_
  refine lv_iconst (v := 5) hx hb dX9_lot_164 (by decide) ?_
  refine lv_icmp_ge (tgt := 202) hx hb dX9_lot_165 (by decide) (fun c_53 => ?_) (fun c_53 => absurd (by decide) c_53)
  refine lv_iconst (v := 0) hx hb dX9_lot_202 (by decide) ?_
  refine lv_istore (lv' := [(7, .int 0), (6, .int 0), (0, .ref h0), (1, .int a1), (2, .int a2), (3, .int a3), (4, .int a4), (5, .int a5)]) hx hb dX9_lot_203 hl (by decide) rfl (fun ls hl => ?_)
  refine lv_iload hx hb dX9_lot_205 (lv_at hl 0 rfl) ?_
  refine lv_bipush (v := 8) hx hb dX9_lot_207 (by decide) ?_
  refine lv_icmp_ge (tgt := 238) hx hb dX9_lot_209 (by decide) (fun c_54 => absurd c_54 (by decide)) (fun c_54 => ?_)
  refine lv_aload_n hx hb dX9_lot_212 rfl (lv_at hl 2 rfl) ?_
  refine va_get (D := D) (ci := 9) (v := .ref m7) (C := RX9) (T := TX9) (N := 44) hx hb hts hin9 hown hK hP 0 rfl rfl 7 (by decide) (hts (.fieldLink RX9 32 "HoneyHouseModel" "lotSteps" "[I") (List.mem_of_getElem? (i := 6) rfl)) (fun _ h9 => h9) rfl dX9_lot_213 ?_
  refine lv_bipush (v := 8) hx hb dX9_lot_216 (by decide) ?_
  refine lv_iload hx hb dX9_lot_218 (lv_at hl 1 rfl) ?_
  refine lv_imul hx hb dX9_lot_220 ?_
  refine tp_i (y := 0) (by decide) ?_
  refine lv_iload hx hb dX9_lot_221 (lv_at hl 0 rfl) ?_
  refine lv_iadd hx hb dX9_lot_223 ?_
  refine tp_i (y := 0) (by decide) ?_
  refine lv_aload_n hx hb dX9_lot_224 rfl (lv_at hl 2 rfl) ?_
  refine va_get (D := D) (ci := 9) (v := .ref m8) (C := RX9) (T := TX9) (N := 44) hx hb hts hin9 hown hK hP 0 rfl rfl 8 (by decide) (hts (.fieldLink RX9 35 "HoneyHouseModel" "steps" "[I") (List.mem_of_getElem? (i := 7) rfl)) (fun _ h9 => h9) rfl dX9_lot_225 ?_
  refine lv_iload hx hb dX9_lot_228 (lv_at hl 0 rfl) ?_
  refine va_iald (f := fun _ => 0) (n := 8) hx hb hK hP 5 4 rfl rfl (vp_in_iff.mpr (by decide)) dX9_lot_230 ?_
  refine tp_i (y := 0) (rfl) ?_
  refine va_iast (f := fun _ => 0) (n := 320) hx hb hK hP hD hS 4 3 rfl rfl (vp_in_iff.mpr (by decide)) dX9_lot_231 (fun H locs hP hD hS => ?_)
  have hP : va_P D vwCl [(h0, .inr (9, [.ref m0, .int 0, .int 0, .int 1, .ref m4, .ref m5, .ref m6, .ref m7, .ref m8, .ref m9, .ref m10, .ref m11, .ref m12, .int 0, .int 0, .ref m15, .ref m16, .ref m17, .ref m18, .ref m19, .ref m20, .int 0, .int (-1), .ref m23, .ref m24, .int 0, .int 0, .int 0, .ref m28, .int 0, .int 0, .int 0, .ref m32, .ref m33, .ref m34, .int 0, .ref m36, .ref m37, .ref m38, .ref m39, .ref m40, .ref m41, .ref m42, .int 0])), (m4, .inl (c4, 280, .inl f_37)), (m5, .inl (c5, 200, .inl f_51)), (m6, .inl (c6, 200, .inl f_52)), (m7, .inl (c7, 320, .inl (upd (fun _ => 0) 0 0))), (m8, .inl (c8, 8, .inl (fun _ => 0)))] H := hP
  have hD : va_D A [(h0, .inr (9, [.ref m0, .int 0, .int 0, .int 1, .ref m4, .ref m5, .ref m6, .ref m7, .ref m8, .ref m9, .ref m10, .ref m11, .ref m12, .int 0, .int 0, .ref m15, .ref m16, .ref m17, .ref m18, .ref m19, .ref m20, .int 0, .int (-1), .ref m23, .ref m24, .int 0, .int 0, .int 0, .ref m28, .int 0, .int 0, .int 0, .ref m32, .ref m33, .ref m34, .int 0, .ref m36, .ref m37, .ref m38, .ref m39, .ref m40, .ref m41, .ref m42, .int 0])), (m4, .inl (c4, 280, .inl f_37)), (m5, .inl (c5, 200, .inl f_51)), (m6, .inl (c6, 200, .inl f_52)), (m7, .inl (c7, 320, .inl (upd (fun _ => 0) 0 0))), (m8, .inl (c8, 8, .inl (fun _ => 0)))] := hD
  generalize upd (fun _ => 0) 0 0 = f_55 at hP hD
  have hP : va_P D vwCl [(h0, .inr (9, [.ref m0, .int 0, .int 0, .int 1, .ref m4, .ref m5, .ref m6, .ref m7, .ref m8, .ref m9, .ref m10, .ref m11, .ref m12, .int 0, .int 0, .ref m15, .ref m16, .ref m17, .ref m18, .ref m19, .ref m20, .int 0, .int (-1), .ref m23, .ref m24, .int 0, .int 0, .int 0, .ref m28, .int 0, .int 0, .int 0, .ref m32, .ref m33, .ref m34, .int 0, .ref m36, .ref m37, .ref m38, .ref m39, .ref m40, .ref m41, .ref m42, .int 0])), (m4, .inl (c4, 280, .inl f_37)), (m5, .inl (c5, 200, .inl f_51)), (m6, .inl (c6, 200, .inl f_52)), (m7, .inl (c7, 320, .inl f_55)), (m8, .inl (c8, 8, .inl (fun _ => 0)))] H := hP
  have hD : va_D A [(h0, .inr (9, [.ref m0, .int 0, .int 0, .int 1, .ref m4, .ref m5, .ref m6, .ref m7, .ref m8, .ref m9, .ref m10, .ref m11, .ref m12, .int 0, .int 0, .ref m15, .ref m16, .ref m17, .ref m18, .ref m19, .ref m20, .int 0, .int (-1), .ref m23, .ref m24, .int 0, .int 0, .int 0, .ref m28, .int 0, .int 0, .int 0, .ref m32, .ref m33, .ref m34, .int 0, .ref m36, .ref m37, .ref m38, .ref m39, .ref m40, .ref m41, .ref m42, .int 0])), (m4, .inl (c4, 280, .inl f_37)), (m5, .inl (c5, 200, .inl f_51)), (m6, .inl (c6, 200, .inl f_52)), (m7, .inl (c7, 320, .inl f_55)), (m8, .inl (c8, 8, .inl (fun _ => 0)))] := hD
  refine lv_iinc (v := 1) (lv' := [(7, .int 1), (6, .int 0), (0, .ref h0), (1, .int a1), (2, .int a2), (3, .int a3), (4, .int a4), (5, .int a5)]) hx hb dX9_lot_232 hl (k := 0) rfl (by decide) (by decide) rfl (fun ls hl => ?_)
  refine lv_goto (tgt := 205) hx hb dX9_lot_235 (by decide) ?_
  refine lv_iload hx hb dX9_lot_205 (lv_at hl 0 rfl) ?_
  refine lv_bipush (v := 8) hx hb dX9_lot_207 (by decide) ?_
  refine lv_icmp_ge (tgt := 238) hx hb dX9_lot_209 (by decide) (fun c_56 => absurd c_56 (by decide)) (fun c_56 => ?_)
  refine lv_aload_n hx hb dX9_lot_212 rfl (lv_at hl 2 rfl) ?_
  refine va_get (D := D) (ci := 9) (v := .ref m7) (C := RX9) (T := TX9) (N := 44) hx hb hts hin9 hown hK hP 0 rfl rfl 7 (by decide) (hts (.fieldLink RX9 32 "HoneyHouseModel" "lotSteps" "[I") (List.mem_of_getElem? (i := 6) rfl)) (fun _ h9 => h9) rfl dX9_lot_213 ?_
  refine lv_bipush (v := 8) hx hb dX9_lot_216 (by decide) ?_
  refine lv_iload hx hb dX9_lot_218 (lv_at hl 1 rfl) ?_
  refine lv_imul hx hb dX9_lot_220 ?_
  refine tp_i (y := 0) (by decide) ?_
  refine lv_iload hx hb dX9_lot_221 (lv_at hl 0 rfl) ?_
  refine lv_iadd hx hb dX9_lot_223 ?_
  refine tp_i (y := 1) (by decide) ?_
  refine lv_aload_n hx hb dX9_lot_224 rfl (lv_at hl 2 rfl) ?_
  refine va_get (D := D) (ci := 9) (v := .ref m8) (C := RX9) (T := TX9) (N := 44) hx hb hts hin9 hown hK hP 0 rfl rfl 8 (by decide) (hts (.fieldLink RX9 35 "HoneyHouseModel" "steps" "[I") (List.mem_of_getElem? (i := 7) rfl)) (fun _ h9 => h9) rfl dX9_lot_225 ?_
  refine lv_iload hx hb dX9_lot_228 (lv_at hl 0 rfl) ?_
  refine va_iald (f := fun _ => 0) (n := 8) hx hb hK hP 5 4 rfl rfl (vp_in_iff.mpr (by decide)) dX9_lot_230 ?_
  refine tp_i (y := 0) (rfl) ?_
  refine va_iast (f := f_55) (n := 320) hx hb hK hP hD hS 4 3 rfl rfl (vp_in_iff.mpr (by decide)) dX9_lot_231 (fun H locs hP hD hS => ?_)
  have hP : va_P D vwCl [(h0, .inr (9, [.ref m0, .int 0, .int 0, .int 1, .ref m4, .ref m5, .ref m6, .ref m7, .ref m8, .ref m9, .ref m10, .ref m11, .ref m12, .int 0, .int 0, .ref m15, .ref m16, .ref m17, .ref m18, .ref m19, .ref m20, .int 0, .int (-1), .ref m23, .ref m24, .int 0, .int 0, .int 0, .ref m28, .int 0, .int 0, .int 0, .ref m32, .ref m33, .ref m34, .int 0, .ref m36, .ref m37, .ref m38, .ref m39, .ref m40, .ref m41, .ref m42, .int 0])), (m4, .inl (c4, 280, .inl f_37)), (m5, .inl (c5, 200, .inl f_51)), (m6, .inl (c6, 200, .inl f_52)), (m7, .inl (c7, 320, .inl (upd f_55 1 0))), (m8, .inl (c8, 8, .inl (fun _ => 0)))] H := hP
  have hD : va_D A [(h0, .inr (9, [.ref m0, .int 0, .int 0, .int 1, .ref m4, .ref m5, .ref m6, .ref m7, .ref m8, .ref m9, .ref m10, .ref m11, .ref m12, .int 0, .int 0, .ref m15, .ref m16, .ref m17, .ref m18, .ref m19, .ref m20, .int 0, .int (-1), .ref m23, .ref m24, .int 0, .int 0, .int 0, .ref m28, .int 0, .int 0, .int 0, .ref m32, .ref m33, .ref m34, .int 0, .ref m36, .ref m37, .ref m38, .ref m39, .ref m40, .ref m41, .ref m42, .int 0])), (m4, .inl (c4, 280, .inl f_37)), (m5, .inl (c5, 200, .inl f_51)), (m6, .inl (c6, 200, .inl f_52)), (m7, .inl (c7, 320, .inl (upd f_55 1 0))), (m8, .inl (c8, 8, .inl (fun _ => 0)))] := hD
  generalize upd f_55 1 0 = f_57 at hP hD
  have hP : va_P D vwCl [(h0, .inr (9, [.ref m0, .int 0, .int 0, .int 1, .ref m4, .ref m5, .ref m6, .ref m7, .ref m8, .ref m9, .ref m10, .ref m11, .ref m12, .int 0, .int 0, .ref m15, .ref m16, .ref m17, .ref m18, .ref m19, .ref m20, .int 0, .int (-1), .ref m23, .ref m24, .int 0, .int 0, .int 0, .ref m28, .int 0, .int 0, .int 0, .ref m32, .ref m33, .ref m34, .int 0, .ref m36, .ref m37, .ref m38, .ref m39, .ref m40, .ref m41, .ref m42, .int 0])), (m4, .inl (c4, 280, .inl f_37)), (m5, .inl (c5, 200, .inl f_51)), (m6, .inl (c6, 200, .inl f_52)), (m7, .inl (c7, 320, .inl f_57)), (m8, .inl (c8, 8, .inl (fun _ => 0)))] H := hP
  have hD : va_D A [(h0, .inr (9, [.ref m0, .int 0, .int 0, .int 1, .ref m4, .ref m5, .ref m6, .ref m7, .ref m8, .ref m9, .ref m10, .ref m11, .ref m12, .int 0, .int 0, .ref m15, .ref m16, .ref m17, .ref m18, .ref m19, .ref m20, .int 0, .int (-1), .ref m23, .ref m24, .int 0, .int 0, .int 0, .ref m28, .int 0, .int 0, .int 0, .ref m32, .ref m33, .ref m34, .int 0, .ref m36, .ref m37, .ref m38, .ref m39, .ref m40, .ref m41, .ref m42, .int 0])), (m4, .inl (c4, 280, .inl f_37)), (m5, .inl (c5, 200, .inl f_51)), (m6, .inl (c6, 200, .inl f_52)), (m7, .inl (c7, 320, .inl f_57)), (m8, .inl (c8, 8, .inl (fun _ => 0)))] := hD
  refine lv_iinc (v := 2) (lv' := [(7, .int 2), (6, .int 0), (0, .ref h0), (1, .int a1), (2, .int a2), (3, .int a3), (4, .int a4), (5, .int a5)]) hx hb dX9_lot_232 hl (k := 0) rfl (by decide) (by decide) rfl (fun ls hl => ?_)
  refine lv_goto (tgt := 205) hx hb dX9_lot_235 (by decide) ?_
  refine lv_iload hx hb dX9_lot_205 (lv_at hl 0 rfl) ?_
  refine lv_bipush (v := 8) hx hb dX9_lot_207 (by decide) ?_
  refine lv_icmp_ge (tgt := 238) hx hb dX9_lot_209 (by decide) (fun c_58 => absurd c_58 (by decide)) (fun c_58 => ?_)
  refine lv_aload_n hx hb dX9_lot_212 rfl (lv_at hl 2 rfl) ?_
  refine va_get (D := D) (ci := 9) (v := .ref m7) (C := RX9) (T := TX9) (N := 44) hx hb hts hin9 hown hK hP 0 rfl rfl 7 (by decide) (hts (.fieldLink RX9 32 "HoneyHouseModel" "lotSteps" "[I") (List.mem_of_getElem? (i := 6) rfl)) (fun _ h9 => h9) rfl dX9_lot_213 ?_
  refine lv_bipush (v := 8) hx hb dX9_lot_216 (by decide) ?_
  refine lv_iload hx hb dX9_lot_218 (lv_at hl 1 rfl) ?_
  refine lv_imul hx hb dX9_lot_220 ?_
  refine tp_i (y := 0) (by decide) ?_
  refine lv_iload hx hb dX9_lot_221 (lv_at hl 0 rfl) ?_
  refine lv_iadd hx hb dX9_lot_223 ?_
  refine tp_i (y := 2) (by decide) ?_
  refine lv_aload_n hx hb dX9_lot_224 rfl (lv_at hl 2 rfl) ?_
  refine va_get (D := D) (ci := 9) (v := .ref m8) (C := RX9) (T := TX9) (N := 44) hx hb hts hin9 hown hK hP 0 rfl rfl 8 (by decide) (hts (.fieldLink RX9 35 "HoneyHouseModel" "steps" "[I") (List.mem_of_getElem? (i := 7) rfl)) (fun _ h9 => h9) rfl dX9_lot_225 ?_
  refine lv_iload hx hb dX9_lot_228 (lv_at hl 0 rfl) ?_
  refine va_iald (f := fun _ => 0) (n := 8) hx hb hK hP 5 4 rfl rfl (vp_in_iff.mpr (by decide)) dX9_lot_230 ?_
  refine tp_i (y := 0) (rfl) ?_
  refine va_iast (f := f_57) (n := 320) hx hb hK hP hD hS 4 3 rfl rfl (vp_in_iff.mpr (by decide)) dX9_lot_231 (fun H locs hP hD hS => ?_)
  have hP : va_P D vwCl [(h0, .inr (9, [.ref m0, .int 0, .int 0, .int 1, .ref m4, .ref m5, .ref m6, .ref m7, .ref m8, .ref m9, .ref m10, .ref m11, .ref m12, .int 0, .int 0, .ref m15, .ref m16, .ref m17, .ref m18, .ref m19, .ref m20, .int 0, .int (-1), .ref m23, .ref m24, .int 0, .int 0, .int 0, .ref m28, .int 0, .int 0, .int 0, .ref m32, .ref m33, .ref m34, .int 0, .ref m36, .ref m37, .ref m38, .ref m39, .ref m40, .ref m41, .ref m42, .int 0])), (m4, .inl (c4, 280, .inl f_37)), (m5, .inl (c5, 200, .inl f_51)), (m6, .inl (c6, 200, .inl f_52)), (m7, .inl (c7, 320, .inl (upd f_57 2 0))), (m8, .inl (c8, 8, .inl (fun _ => 0)))] H := hP
  have hD : va_D A [(h0, .inr (9, [.ref m0, .int 0, .int 0, .int 1, .ref m4, .ref m5, .ref m6, .ref m7, .ref m8, .ref m9, .ref m10, .ref m11, .ref m12, .int 0, .int 0, .ref m15, .ref m16, .ref m17, .ref m18, .ref m19, .ref m20, .int 0, .int (-1), .ref m23, .ref m24, .int 0, .int 0, .int 0, .ref m28, .int 0, .int 0, .int 0, .ref m32, .ref m33, .ref m34, .int 0, .ref m36, .ref m37, .ref m38, .ref m39, .ref m40, .ref m41, .ref m42, .int 0])), (m4, .inl (c4, 280, .inl f_37)), (m5, .inl (c5, 200, .inl f_51)), (m6, .inl (c6, 200, .inl f_52)), (m7, .inl (c7, 320, .inl (upd f_57 2 0))), (m8, .inl (c8, 8, .inl (fun _ => 0)))] := hD
  generalize upd f_57 2 0 = f_59 at hP hD
  have hP : va_P D vwCl [(h0, .inr (9, [.ref m0, .int 0, .int 0, .int 1, .ref m4, .ref m5, .ref m6, .ref m7, .ref m8, .ref m9, .ref m10, .ref m11, .ref m12, .int 0, .int 0, .ref m15, .ref m16, .ref m17, .ref m18, .ref m19, .ref m20, .int 0, .int (-1), .ref m23, .ref m24, .int 0, .int 0, .int 0, .ref m28, .int 0, .int 0, .int 0, .ref m32, .ref m33, .ref m34, .int 0, .ref m36, .ref m37, .ref m38, .ref m39, .ref m40, .ref m41, .ref m42, .int 0])), (m4, .inl (c4, 280, .inl f_37)), (m5, .inl (c5, 200, .inl f_51)), (m6, .inl (c6, 200, .inl f_52)), (m7, .inl (c7, 320, .inl f_59)), (m8, .inl (c8, 8, .inl (fun _ => 0)))] H := hP
  have hD : va_D A [(h0, .inr (9, [.ref m0, .int 0, .int 0, .int 1, .ref m4, .ref m5, .ref m6, .ref m7, .ref m8, .ref m9, .ref m10, .ref m11, .ref m12, .int 0, .int 0, .ref m15, .ref m16, .ref m17, .ref m18, .ref m19, .ref m20, .int 0, .int (-1), .ref m23, .ref m24, .int 0, .int 0, .int 0, .ref m28, .int 0, .int 0, .int 0, .ref m32, .ref m33, .ref m34, .int 0, .ref m36, .ref m37, .ref m38, .ref m39, .ref m40, .ref m41, .ref m42, .int 0])), (m4, .inl (c4, 280, .inl f_37)), (m5, .inl (c5, 200, .inl f_51)), (m6, .inl (c6, 200, .inl f_52)), (m7, .inl (c7, 320, .inl f_59)), (m8, .inl (c8, 8, .inl (fun _ => 0)))] := hD
  refine lv_iinc (v := 3) (lv' := [(7, .int 3), (6, .int 0), (0, .ref h0), (1, .int a1), (2, .int a2), (3, .int a3), (4, .int a4), (5, .int a5)]) hx hb dX9_lot_232 hl (k := 0) rfl (by decide) (by decide) rfl (fun ls hl => ?_)
  refine lv_goto (tgt := 205) hx hb dX9_lot_235 (by decide) ?_
  refine lv_iload hx hb dX9_lot_205 (lv_at hl 0 rfl) ?_
  refine lv_bipush (v := 8) hx hb dX9_lot_207 (by decide) ?_
  refine lv_icmp_ge (tgt := 238) hx hb dX9_lot_209 (by decide) (fun c_60 => absurd c_60 (by decide)) (fun c_60 => ?_)
  refine lv_aload_n hx hb dX9_lot_212 rfl (lv_at hl 2 rfl) ?_
  refine va_get (D := D) (ci := 9) (v := .ref m7) (C := RX9) (T := TX9) (N := 44) hx hb hts hin9 hown hK hP 0 rfl rfl 7 (by decide) (hts (.fieldLink RX9 32 "HoneyHouseModel" "lotSteps" "[I") (List.mem_of_getElem? (i := 6) rfl)) (fun _ h9 => h9) rfl dX9_lot_213 ?_
  refine lv_bipush (v := 8) hx hb dX9_lot_216 (by decide) ?_
  refine lv_iload hx hb dX9_lot_218 (lv_at hl 1 rfl) ?_
  refine lv_imul hx hb dX9_lot_220 ?_
  refine tp_i (y := 0) (by decide) ?_
  refine lv_iload hx hb dX9_lot_221 (lv_at hl 0 rfl) ?_
  refine lv_iadd hx hb dX9_lot_223 ?_
  refine tp_i (y := 3) (by decide) ?_
  refine lv_aload_n hx hb dX9_lot_224 rfl (lv_at hl 2 rfl) ?_
  refine va_get (D := D) (ci := 9) (v := .ref m8) (C := RX9) (T := TX9) (N := 44) hx hb hts hin9 hown hK hP 0 rfl rfl 8 (by decide) (hts (.fieldLink RX9 35 "HoneyHouseModel" "steps" "[I") (List.mem_of_getElem? (i := 7) rfl)) (fun _ h9 => h9) rfl dX9_lot_225 ?_
  refine lv_iload hx hb dX9_lot_228 (lv_at hl 0 rfl) ?_
  refine va_iald (f := fun _ => 0) (n := 8) hx hb hK hP 5 4 rfl rfl (vp_in_iff.mpr (by decide)) dX9_lot_230 ?_
  refine tp_i (y := 0) (rfl) ?_
  refine va_iast (f := f_59) (n := 320) hx hb hK hP hD hS 4 3 rfl rfl (vp_in_iff.mpr (by decide)) dX9_lot_231 (fun H locs hP hD hS => ?_)
  have hP : va_P D vwCl [(h0, .inr (9, [.ref m0, .int 0, .int 0, .int 1, .ref m4, .ref m5, .ref m6, .ref m7, .ref m8, .ref m9, .ref m10, .ref m11, .ref m12, .int 0, .int 0, .ref m15, .ref m16, .ref m17, .ref m18, .ref m19, .ref m20, .int 0, .int (-1), .ref m23, .ref m24, .int 0, .int 0, .int 0, .ref m28, .int 0, .int 0, .int 0, .ref m32, .ref m33, .ref m34, .int 0, .ref m36, .ref m37, .ref m38, .ref m39, .ref m40, .ref m41, .ref m42, .int 0])), (m4, .inl (c4, 280, .inl f_37)), (m5, .inl (c5, 200, .inl f_51)), (m6, .inl (c6, 200, .inl f_52)), (m7, .inl (c7, 320, .inl (upd f_59 3 0))), (m8, .inl (c8, 8, .inl (fun _ => 0)))] H := hP
  have hD : va_D A [(h0, .inr (9, [.ref m0, .int 0, .int 0, .int 1, .ref m4, .ref m5, .ref m6, .ref m7, .ref m8, .ref m9, .ref m10, .ref m11, .ref m12, .int 0, .int 0, .ref m15, .ref m16, .ref m17, .ref m18, .ref m19, .ref m20, .int 0, .int (-1), .ref m23, .ref m24, .int 0, .int 0, .int 0, .ref m28, .int 0, .int 0, .int 0, .ref m32, .ref m33, .ref m34, .int 0, .ref m36, .ref m37, .ref m38, .ref m39, .ref m40, .ref m41, .ref m42, .int 0])), (m4, .inl (c4, 280, .inl f_37)), (m5, .inl (c5, 200, .inl f_51)), (m6, .inl (c6, 200, .inl f_52)), (m7, .inl (c7, 320, .inl (upd f_59 3 0))), (m8, .inl (c8, 8, .inl (fun _ => 0)))] := hD
  generalize upd f_59 3 0 = f_61 at hP hD
  have hP : va_P D vwCl [(h0, .inr (9, [.ref m0, .int 0, .int 0, .int 1, .ref m4, .ref m5, .ref m6, .ref m7, .ref m8, .ref m9, .ref m10, .ref m11, .ref m12, .int 0, .int 0, .ref m15, .ref m16, .ref m17, .ref m18, .ref m19, .ref m20, .int 0, .int (-1), .ref m23, .ref m24, .int 0, .int 0, .int 0, .ref m28, .int 0, .int 0, .int 0, .ref m32, .ref m33, .ref m34, .int 0, .ref m36, .ref m37, .ref m38, .ref m39, .ref m40, .ref m41, .ref m42, .int 0])), (m4, .inl (c4, 280, .inl f_37)), (m5, .inl (c5, 200, .inl f_51)), (m6, .inl (c6, 200, .inl f_52)), (m7, .inl (c7, 320, .inl f_61)), (m8, .inl (c8, 8, .inl (fun _ => 0)))] H := hP
  have hD : va_D A [(h0, .inr (9, [.ref m0, .int 0, .int 0, .int 1, .ref m4, .ref m5, .ref m6, .ref m7, .ref m8, .ref m9, .ref m10, .ref m11, .ref m12, .int 0, .int 0, .ref m15, .ref m16, .ref m17, .ref m18, .ref m19, .ref m20, .int 0, .int (-1), .ref m23, .ref m24, .int 0, .int 0, .int 0, .ref m28, .int 0, .int 0, .int 0, .ref m32, .ref m33, .ref m34, .int 0, .ref m36, .ref m37, .ref m38, .ref m39, .ref m40, .ref m41, .ref m42, .int 0])), (m4, .inl (c4, 280, .inl f_37)), (m5, .inl (c5, 200, .inl f_51)), (m6, .inl (c6, 200, .inl f_52)), (m7, .inl (c7, 320, .inl f_61)), (m8, .inl (c8, 8, .inl (fun _ => 0)))] := hD
  refine lv_iinc (v := 4) (lv' := [(7, .int 4), (6, .int 0), (0, .ref h0), (1, .int a1), (2, .int a2), (3, .int a3), (4, .int a4), (5, .int a5)]) hx hb dX9_lot_232 hl (k := 0) rfl (by decide) (by decide) rfl (fun ls hl => ?_)
  refine lv_goto (tgt := 205) hx hb dX9_lot_235 (by decide) ?_
  refine lv_iload hx hb dX9_lot_205 (lv_at hl 0 rfl) ?_
  refine lv_bipush (v := 8) hx hb dX9_lot_207 (by decide) ?_
  refine lv_icmp_ge (tgt := 238) hx hb dX9_lot_209 (by decide) (fun c_62 => absurd c_62 (by decide)) (fun c_62 => ?_)
  refine lv_aload_n hx hb dX9_lot_212 rfl (lv_at hl 2 rfl) ?_
  refine va_get (D := D) (ci := 9) (v := .ref m7) (C := RX9) (T := TX9) (N := 44) hx hb hts hin9 hown hK hP 0 rfl rfl 7 (by decide) (hts (.fieldLink RX9 32 "HoneyHouseModel" "lotSteps" "[I") (List.mem_of_getElem? (i := 6) rfl)) (fun _ h9 => h9) rfl dX9_lot_213 ?_
  refine lv_bipush (v := 8) hx hb dX9_lot_216 (by decide) ?_
  refine lv_iload hx hb dX9_lot_218 (lv_at hl 1 rfl) ?_
  refine lv_imul hx hb dX9_lot_220 ?_
  refine tp_i (y := 0) (by decide) ?_
  refine lv_iload hx hb dX9_lot_221 (lv_at hl 0 rfl) ?_
  refine lv_iadd hx hb dX9_lot_223 ?_
  refine tp_i (y := 4) (by decide) ?_
  refine lv_aload_n hx hb dX9_lot_224 rfl (lv_at hl 2 rfl) ?_
  refine va_get (D := D) (ci := 9) (v := .ref m8) (C := RX9) (T := TX9) (N := 44) hx hb hts hin9 hown hK hP 0 rfl rfl 8 (by decide) (hts (.fieldLink RX9 35 "HoneyHouseModel" "steps" "[I") (List.mem_of_getElem? (i := 7) rfl)) (fun _ h9 => h9) rfl dX9_lot_225 ?_
  refine lv_iload hx hb dX9_lot_228 (lv_at hl 0 rfl) ?_
  refine va_iald (f := fun _ => 0) (n := 8) hx hb hK hP 5 4 rfl rfl (vp_in_iff.mpr (by decide)) dX9_lot_230 ?_
  refine tp_i (y := 0) (rfl) ?_
  refine va_iast (f := f_61) (n := 320) hx hb hK hP hD hS 4 3 rfl rfl (vp_in_iff.mpr (by decide)) dX9_lot_231 (fun H locs hP hD hS => ?_)
  have hP : va_P D vwCl [(h0, .inr (9, [.ref m0, .int 0, .int 0, .int 1, .ref m4, .ref m5, .ref m6, .ref m7, .ref m8, .ref m9, .ref m10, .ref m11, .ref m12, .int 0, .int 0, .ref m15, .ref m16, .ref m17, .ref m18, .ref m19, .ref m20, .int 0, .int (-1), .ref m23, .ref m24, .int 0, .int 0, .int 0, .ref m28, .int 0, .int 0, .int 0, .ref m32, .ref m33, .ref m34, .int 0, .ref m36, .ref m37, .ref m38, .ref m39, .ref m40, .ref m41, .ref m42, .int 0])), (m4, .inl (c4, 280, .inl f_37)), (m5, .inl (c5, 200, .inl f_51)), (m6, .inl (c6, 200, .inl f_52)), (m7, .inl (c7, 320, .inl (upd f_61 4 0))), (m8, .inl (c8, 8, .inl (fun _ => 0)))] H := hP
  have hD : va_D A [(h0, .inr (9, [.ref m0, .int 0, .int 0, .int 1, .ref m4, .ref m5, .ref m6, .ref m7, .ref m8, .ref m9, .ref m10, .ref m11, .ref m12, .int 0, .int 0, .ref m15, .ref m16, .ref m17, .ref m18, .ref m19, .ref m20, .int 0, .int (-1), .ref m23, .ref m24, .int 0, .int 0, .int 0, .ref m28, .int 0, .int 0, .int 0, .ref m32, .ref m33, .ref m34, .int 0, .ref m36, .ref m37, .ref m38, .ref m39, .ref m40, .ref m41, .ref m42, .int 0])), (m4, .inl (c4, 280, .inl f_37)), (m5, .inl (c5, 200, .inl f_51)), (m6, .inl (c6, 200, .inl f_52)), (m7, .inl (c7, 320, .inl (upd f_61 4 0))), (m8, .inl (c8, 8, .inl (fun _ => 0)))] := hD
  generalize upd f_61 4 0 = f_63 at hP hD
  have hP : va_P D vwCl [(h0, .inr (9, [.ref m0, .int 0, .int 0, .int 1, .ref m4, .ref m5, .ref m6, .ref m7, .ref m8, .ref m9, .ref m10, .ref m11, .ref m12, .int 0, .int 0, .ref m15, .ref m16, .ref m17, .ref m18, .ref m19, .ref m20, .int 0, .int (-1), .ref m23, .ref m24, .int 0, .int 0, .int 0, .ref m28, .int 0, .int 0, .int 0, .ref m32, .ref m33, .ref m34, .int 0, .ref m36, .ref m37, .ref m38, .ref m39, .ref m40, .ref m41, .ref m42, .int 0])), (m4, .inl (c4, 280, .inl f_37)), (m5, .inl (c5, 200, .inl f_51)), (m6, .inl (c6, 200, .inl f_52)), (m7, .inl (c7, 320, .inl f_63)), (m8, .inl (c8, 8, .inl (fun _ => 0)))] H := hP
  have hD : va_D A [(h0, .inr (9, [.ref m0, .int 0, .int 0, .int 1, .ref m4, .ref m5, .ref m6, .ref m7, .ref m8, .ref m9, .ref m10, .ref m11, .ref m12, .int 0, .int 0, .ref m15, .ref m16, .ref m17, .ref m18, .ref m19, .ref m20, .int 0, .int (-1), .ref m23, .ref m24, .int 0, .int 0, .int 0, .ref m28, .int 0, .int 0, .int 0, .ref m32, .ref m33, .ref m34, .int 0, .ref m36, .ref m37, .ref m38, .ref m39, .ref m40, .ref m41, .ref m42, .int 0])), (m4, .inl (c4, 280, .inl f_37)), (m5, .inl (c5, 200, .inl f_51)), (m6, .inl (c6, 200, .inl f_52)), (m7, .inl (c7, 320, .inl f_63)), (m8, .inl (c8, 8, .inl (fun _ => 0)))] := hD
  refine lv_iinc (v := 5) (lv' := [(7, .int 5), (6, .int 0), (0, .ref h0), (1, .int a1), (2, .int a2), (3, .int a3), (4, .int a4), (5, .int a5)]) hx hb dX9_lot_232 hl (k := 0) rfl (by decide) (by decide) rfl (fun ls hl => ?_)
  refine lv_goto (tgt := 205) hx hb dX9_lot_235 (by decide) ?_
  refine lv_iload hx hb dX9_lot_205 (lv_at hl 0 rfl) ?_
  refine lv_bipush (v := 8) hx hb dX9_lot_207 (by decide) ?_
  refine lv_icmp_ge (tgt := 238) hx hb dX9_lot_209 (by decide) (fun c_64 => absurd c_64 (by decide)) (fun c_64 => ?_)
  refine lv_aload_n hx hb dX9_lot_212 rfl (lv_at hl 2 rfl) ?_
  refine va_get (D := D) (ci := 9) (v := .ref m7) (C := RX9) (T := TX9) (N := 44) hx hb hts hin9 hown hK hP 0 rfl rfl 7 (by decide) (hts (.fieldLink RX9 32 "HoneyHouseModel" "lotSteps" "[I") (List.mem_of_getElem? (i := 6) rfl)) (fun _ h9 => h9) rfl dX9_lot_213 ?_
  refine lv_bipush (v := 8) hx hb dX9_lot_216 (by decide) ?_
  refine lv_iload hx hb dX9_lot_218 (lv_at hl 1 rfl) ?_
  refine lv_imul hx hb dX9_lot_220 ?_
  refine tp_i (y := 0) (by decide) ?_
  refine lv_iload hx hb dX9_lot_221 (lv_at hl 0 rfl) ?_
  refine lv_iadd hx hb dX9_lot_223 ?_
  refine tp_i (y := 5) (by decide) ?_
  refine lv_aload_n hx hb dX9_lot_224 rfl (lv_at hl 2 rfl) ?_
  refine va_get (D := D) (ci := 9) (v := .ref m8) (C := RX9) (T := TX9) (N := 44) hx hb hts hin9 hown hK hP 0 rfl rfl 8 (by decide) (hts (.fieldLink RX9 35 "HoneyHouseModel" "steps" "[I") (List.mem_of_getElem? (i := 7) rfl)) (fun _ h9 => h9) rfl dX9_lot_225 ?_
  refine lv_iload hx hb dX9_lot_228 (lv_at hl 0 rfl) ?_
  refine va_iald (f := fun _ => 0) (n := 8) hx hb hK hP 5 4 rfl rfl (vp_in_iff.mpr (by decide)) dX9_lot_230 ?_
  refine tp_i (y := 0) (rfl) ?_
  refine va_iast (f := f_63) (n := 320) hx hb hK hP hD hS 4 3 rfl rfl (vp_in_iff.mpr (by decide)) dX9_lot_231 (fun H locs hP hD hS => ?_)
  have hP : va_P D vwCl [(h0, .inr (9, [.ref m0, .int 0, .int 0, .int 1, .ref m4, .ref m5, .ref m6, .ref m7, .ref m8, .ref m9, .ref m10, .ref m11, .ref m12, .int 0, .int 0, .ref m15, .ref m16, .ref m17, .ref m18, .ref m19, .ref m20, .int 0, .int (-1), .ref m23, .ref m24, .int 0, .int 0, .int 0, .ref m28, .int 0, .int 0, .int 0, .ref m32, .ref m33, .ref m34, .int 0, .ref m36, .ref m37, .ref m38, .ref m39, .ref m40, .ref m41, .ref m42, .int 0])), (m4, .inl (c4, 280, .inl f_37)), (m5, .inl (c5, 200, .inl f_51)), (m6, .inl (c6, 200, .inl f_52)), (m7, .inl (c7, 320, .inl (upd f_63 5 0))), (m8, .inl (c8, 8, .inl (fun _ => 0)))] H := hP
  have hD : va_D A [(h0, .inr (9, [.ref m0, .int 0, .int 0, .int 1, .ref m4, .ref m5, .ref m6, .ref m7, .ref m8, .ref m9, .ref m10, .ref m11, .ref m12, .int 0, .int 0, .ref m15, .ref m16, .ref m17, .ref m18, .ref m19, .ref m20, .int 0, .int (-1), .ref m23, .ref m24, .int 0, .int 0, .int 0, .ref m28, .int 0, .int 0, .int 0, .ref m32, .ref m33, .ref m34, .int 0, .ref m36, .ref m37, .ref m38, .ref m39, .ref m40, .ref m41, .ref m42, .int 0])), (m4, .inl (c4, 280, .inl f_37)), (m5, .inl (c5, 200, .inl f_51)), (m6, .inl (c6, 200, .inl f_52)), (m7, .inl (c7, 320, .inl (upd f_63 5 0))), (m8, .inl (c8, 8, .inl (fun _ => 0)))] := hD
  generalize upd f_63 5 0 = f_65 at hP hD
  have hP : va_P D vwCl [(h0, .inr (9, [.ref m0, .int 0, .int 0, .int 1, .ref m4, .ref m5, .ref m6, .ref m7, .ref m8, .ref m9, .ref m10, .ref m11, .ref m12, .int 0, .int 0, .ref m15, .ref m16, .ref m17, .ref m18, .ref m19, .ref m20, .int 0, .int (-1), .ref m23, .ref m24, .int 0, .int 0, .int 0, .ref m28, .int 0, .int 0, .int 0, .ref m32, .ref m33, .ref m34, .int 0, .ref m36, .ref m37, .ref m38, .ref m39, .ref m40, .ref m41, .ref m42, .int 0])), (m4, .inl (c4, 280, .inl f_37)), (m5, .inl (c5, 200, .inl f_51)), (m6, .inl (c6, 200, .inl f_52)), (m7, .inl (c7, 320, .inl f_65)), (m8, .inl (c8, 8, .inl (fun _ => 0)))] H := hP
  have hD : va_D A [(h0, .inr (9, [.ref m0, .int 0, .int 0, .int 1, .ref m4, .ref m5, .ref m6, .ref m7, .ref m8, .ref m9, .ref m10, .ref m11, .ref m12, .int 0, .int 0, .ref m15, .ref m16, .ref m17, .ref m18, .ref m19, .ref m20, .int 0, .int (-1), .ref m23, .ref m24, .int 0, .int 0, .int 0, .ref m28, .int 0, .int 0, .int 0, .ref m32, .ref m33, .ref m34, .int 0, .ref m36, .ref m37, .ref m38, .ref m39, .ref m40, .ref m41, .ref m42, .int 0])), (m4, .inl (c4, 280, .inl f_37)), (m5, .inl (c5, 200, .inl f_51)), (m6, .inl (c6, 200, .inl f_52)), (m7, .inl (c7, 320, .inl f_65)), (m8, .inl (c8, 8, .inl (fun _ => 0)))] := hD
  refine lv_iinc (v := 6) (lv' := [(7, .int 6), (6, .int 0), (0, .ref h0), (1, .int a1), (2, .int a2), (3, .int a3), (4, .int a4), (5, .int a5)]) hx hb dX9_lot_232 hl (k := 0) rfl (by decide) (by decide) rfl (fun ls hl => ?_)
  refine lv_goto (tgt := 205) hx hb dX9_lot_235 (by decide) ?_
  refine lv_iload hx hb dX9_lot_205 (lv_at hl 0 rfl) ?_
  refine lv_bipush (v := 8) hx hb dX9_lot_207 (by decide) ?_
  refine lv_icmp_ge (tgt := 238) hx hb dX9_lot_209 (by decide) (fun c_66 => absurd c_66 (by decide)) (fun c_66 => ?_)
  refine lv_aload_n hx hb dX9_lot_212 rfl (lv_at hl 2 rfl) ?_
  refine va_get (D := D) (ci := 9) (v := .ref m7) (C := RX9) (T := TX9) (N := 44) hx hb hts hin9 hown hK hP 0 rfl rfl 7 (by decide) (hts (.fieldLink RX9 32 "HoneyHouseModel" "lotSteps" "[I") (List.mem_of_getElem? (i := 6) rfl)) (fun _ h9 => h9) rfl dX9_lot_213 ?_
  refine lv_bipush (v := 8) hx hb dX9_lot_216 (by decide) ?_
  refine lv_iload hx hb dX9_lot_218 (lv_at hl 1 rfl) ?_
  refine lv_imul hx hb dX9_lot_220 ?_
  refine tp_i (y := 0) (by decide) ?_
  refine lv_iload hx hb dX9_lot_221 (lv_at hl 0 rfl) ?_
  refine lv_iadd hx hb dX9_lot_223 ?_
  refine tp_i (y := 6) (by decide) ?_
  refine lv_aload_n hx hb dX9_lot_224 rfl (lv_at hl 2 rfl) ?_
  refine va_get (D := D) (ci := 9) (v := .ref m8) (C := RX9) (T := TX9) (N := 44) hx hb hts hin9 hown hK hP 0 rfl rfl 8 (by decide) (hts (.fieldLink RX9 35 "HoneyHouseModel" "steps" "[I") (List.mem_of_getElem? (i := 7) rfl)) (fun _ h9 => h9) rfl dX9_lot_225 ?_
  refine lv_iload hx hb dX9_lot_228 (lv_at hl 0 rfl) ?_
  refine va_iald (f := fun _ => 0) (n := 8) hx hb hK hP 5 4 rfl rfl (vp_in_iff.mpr (by decide)) dX9_lot_230 ?_
  refine tp_i (y := 0) (rfl) ?_
  refine va_iast (f := f_65) (n := 320) hx hb hK hP hD hS 4 3 rfl rfl (vp_in_iff.mpr (by decide)) dX9_lot_231 (fun H locs hP hD hS => ?_)
  have hP : va_P D vwCl [(h0, .inr (9, [.ref m0, .int 0, .int 0, .int 1, .ref m4, .ref m5, .ref m6, .ref m7, .ref m8, .ref m9, .ref m10, .ref m11, .ref m12, .int 0, .int 0, .ref m15, .ref m16, .ref m17, .ref m18, .ref m19, .ref m20, .int 0, .int (-1), .ref m23, .ref m24, .int 0, .int 0, .int 0, .ref m28, .int 0, .int 0, .int 0, .ref m32, .ref m33, .ref m34, .int 0, .ref m36, .ref m37, .ref m38, .ref m39, .ref m40, .ref m41, .ref m42, .int 0])), (m4, .inl (c4, 280, .inl f_37)), (m5, .inl (c5, 200, .inl f_51)), (m6, .inl (c6, 200, .inl f_52)), (m7, .inl (c7, 320, .inl (upd f_65 6 0))), (m8, .inl (c8, 8, .inl (fun _ => 0)))] H := hP
  have hD : va_D A [(h0, .inr (9, [.ref m0, .int 0, .int 0, .int 1, .ref m4, .ref m5, .ref m6, .ref m7, .ref m8, .ref m9, .ref m10, .ref m11, .ref m12, .int 0, .int 0, .ref m15, .ref m16, .ref m17, .ref m18, .ref m19, .ref m20, .int 0, .int (-1), .ref m23, .ref m24, .int 0, .int 0, .int 0, .ref m28, .int 0, .int 0, .int 0, .ref m32, .ref m33, .ref m34, .int 0, .ref m36, .ref m37, .ref m38, .ref m39, .ref m40, .ref m41, .ref m42, .int 0])), (m4, .inl (c4, 280, .inl f_37)), (m5, .inl (c5, 200, .inl f_51)), (m6, .inl (c6, 200, .inl f_52)), (m7, .inl (c7, 320, .inl (upd f_65 6 0))), (m8, .inl (c8, 8, .inl (fun _ => 0)))] := hD
  generalize upd f_65 6 0 = f_67 at hP hD
  have hP : va_P D vwCl [(h0, .inr (9, [.ref m0, .int 0, .int 0, .int 1, .ref m4, .ref m5, .ref m6, .ref m7, .ref m8, .ref m9, .ref m10, .ref m11, .ref m12, .int 0, .int 0, .ref m15, .ref m16, .ref m17, .ref m18, .ref m19, .ref m20, .int 0, .int (-1), .ref m23, .ref m24, .int 0, .int 0, .int 0, .ref m28, .int 0, .int 0, .int 0, .ref m32, .ref m33, .ref m34, .int 0, .ref m36, .ref m37, .ref m38, .ref m39, .ref m40, .ref m41, .ref m42, .int 0])), (m4, .inl (c4, 280, .inl f_37)), (m5, .inl (c5, 200, .inl f_51)), (m6, .inl (c6, 200, .inl f_52)), (m7, .inl (c7, 320, .inl f_67)), (m8, .inl (c8, 8, .inl (fun _ => 0)))] H := hP
  have hD : va_D A [(h0, .inr (9, [.ref m0, .int 0, .int 0, .int 1, .ref m4, .ref m5, .ref m6, .ref m7, .ref m8, .ref m9, .ref m10, .ref m11, .ref m12, .int 0, .int 0, .ref m15, .ref m16, .ref m17, .ref m18, .ref m19, .ref m20, .int 0, .int (-1), .ref m23, .ref m24, .int 0, .int 0, .int 0, .ref m28, .int 0, .int 0, .int 0, .ref m32, .ref m33, .ref m34, .int 0, .ref m36, .ref m37, .ref m38, .ref m39, .ref m40, .ref m41, .ref m42, .int 0])), (m4, .inl (c4, 280, .inl f_37)), (m5, .inl (c5, 200, .inl f_51)), (m6, .inl (c6, 200, .inl f_52)), (m7, .inl (c7, 320, .inl f_67)), (m8, .inl (c8, 8, .inl (fun _ => 0)))] := hD
  refine lv_iinc (v := 7) (lv' := [(7, .int 7), (6, .int 0), (0, .ref h0), (1, .int a1), (2, .int a2), (3, .int a3), (4, .int a4), (5, .int a5)]) hx hb dX9_lot_232 hl (k := 0) rfl (by decide) (by decide) rfl (fun ls hl => ?_)
  refine lv_goto (tgt := 205) hx hb dX9_lot_235 (by decide) ?_
  refine lv_iload hx hb dX9_lot_205 (lv_at hl 0 rfl) ?_
  refine lv_bipush (v := 8) hx hb dX9_lot_207 (by decide) ?_
  refine lv_icmp_ge (tgt := 238) hx hb dX9_lot_209 (by decide) (fun c_68 => absurd c_68 (by decide)) (fun c_68 => ?_)
  refine lv_aload_n hx hb dX9_lot_212 rfl (lv_at hl 2 rfl) ?_
  refine va_get (D := D) (ci := 9) (v := .ref m7) (C := RX9) (T := TX9) (N := 44) hx hb hts hin9 hown hK hP 0 rfl rfl 7 (by decide) (hts (.fieldLink RX9 32 "HoneyHouseModel" "lotSteps" "[I") (List.mem_of_getElem? (i := 6) rfl)) (fun _ h9 => h9) rfl dX9_lot_213 ?_
  refine lv_bipush (v := 8) hx hb dX9_lot_216 (by decide) ?_
  refine lv_iload hx hb dX9_lot_218 (lv_at hl 1 rfl) ?_
  refine lv_imul hx hb dX9_lot_220 ?_
  refine tp_i (y := 0) (by decide) ?_
  refine lv_iload hx hb dX9_lot_221 (lv_at hl 0 rfl) ?_
  refine lv_iadd hx hb dX9_lot_223 ?_
  refine tp_i (y := 7) (by decide) ?_
  refine lv_aload_n hx hb dX9_lot_224 rfl (lv_at hl 2 rfl) ?_
  refine va_get (D := D) (ci := 9) (v := .ref m8) (C := RX9) (T := TX9) (N := 44) hx hb hts hin9 hown hK hP 0 rfl rfl 8 (by decide) (hts (.fieldLink RX9 35 "HoneyHouseModel" "steps" "[I") (List.mem_of_getElem? (i := 7) rfl)) (fun _ h9 => h9) rfl dX9_lot_225 ?_
  refine lv_iload hx hb dX9_lot_228 (lv_at hl 0 rfl) ?_
  refine va_iald (f := fun _ => 0) (n := 8) hx hb hK hP 5 4 rfl rfl (vp_in_iff.mpr (by decide)) dX9_lot_230 ?_
  refine tp_i (y := 0) (rfl) ?_
  refine va_iast (f := f_67) (n := 320) hx hb hK hP hD hS 4 3 rfl rfl (vp_in_iff.mpr (by decide)) dX9_lot_231 (fun H locs hP hD hS => ?_)
  have hP : va_P D vwCl [(h0, .inr (9, [.ref m0, .int 0, .int 0, .int 1, .ref m4, .ref m5, .ref m6, .ref m7, .ref m8, .ref m9, .ref m10, .ref m11, .ref m12, .int 0, .int 0, .ref m15, .ref m16, .ref m17, .ref m18, .ref m19, .ref m20, .int 0, .int (-1), .ref m23, .ref m24, .int 0, .int 0, .int 0, .ref m28, .int 0, .int 0, .int 0, .ref m32, .ref m33, .ref m34, .int 0, .ref m36, .ref m37, .ref m38, .ref m39, .ref m40, .ref m41, .ref m42, .int 0])), (m4, .inl (c4, 280, .inl f_37)), (m5, .inl (c5, 200, .inl f_51)), (m6, .inl (c6, 200, .inl f_52)), (m7, .inl (c7, 320, .inl (upd f_67 7 0))), (m8, .inl (c8, 8, .inl (fun _ => 0)))] H := hP
  have hD : va_D A [(h0, .inr (9, [.ref m0, .int 0, .int 0, .int 1, .ref m4, .ref m5, .ref m6, .ref m7, .ref m8, .ref m9, .ref m10, .ref m11, .ref m12, .int 0, .int 0, .ref m15, .ref m16, .ref m17, .ref m18, .ref m19, .ref m20, .int 0, .int (-1), .ref m23, .ref m24, .int 0, .int 0, .int 0, .ref m28, .int 0, .int 0, .int 0, .ref m32, .ref m33, .ref m34, .int 0, .ref m36, .ref m37, .ref m38, .ref m39, .ref m40, .ref m41, .ref m42, .int 0])), (m4, .inl (c4, 280, .inl f_37)), (m5, .inl (c5, 200, .inl f_51)), (m6, .inl (c6, 200, .inl f_52)), (m7, .inl (c7, 320, .inl (upd f_67 7 0))), (m8, .inl (c8, 8, .inl (fun _ => 0)))] := hD
  generalize upd f_67 7 0 = f_69 at hP hD
  have hP : va_P D vwCl [(h0, .inr (9, [.ref m0, .int 0, .int 0, .int 1, .ref m4, .ref m5, .ref m6, .ref m7, .ref m8, .ref m9, .ref m10, .ref m11, .ref m12, .int 0, .int 0, .ref m15, .ref m16, .ref m17, .ref m18, .ref m19, .ref m20, .int 0, .int (-1), .ref m23, .ref m24, .int 0, .int 0, .int 0, .ref m28, .int 0, .int 0, .int 0, .ref m32, .ref m33, .ref m34, .int 0, .ref m36, .ref m37, .ref m38, .ref m39, .ref m40, .ref m41, .ref m42, .int 0])), (m4, .inl (c4, 280, .inl f_37)), (m5, .inl (c5, 200, .inl f_51)), (m6, .inl (c6, 200, .inl f_52)), (m7, .inl (c7, 320, .inl f_69)), (m8, .inl (c8, 8, .inl (fun _ => 0)))] H := hP
  have hD : va_D A [(h0, .inr (9, [.ref m0, .int 0, .int 0, .int 1, .ref m4, .ref m5, .ref m6, .ref m7, .ref m8, .ref m9, .ref m10, .ref m11, .ref m12, .int 0, .int 0, .ref m15, .ref m16, .ref m17, .ref m18, .ref m19, .ref m20, .int 0, .int (-1), .ref m23, .ref m24, .int 0, .int 0, .int 0, .ref m28, .int 0, .int 0, .int 0, .ref m32, .ref m33, .ref m34, .int 0, .ref m36, .ref m37, .ref m38, .ref m39, .ref m40, .ref m41, .ref m42, .int 0])), (m4, .inl (c4, 280, .inl f_37)), (m5, .inl (c5, 200, .inl f_51)), (m6, .inl (c6, 200, .inl f_52)), (m7, .inl (c7, 320, .inl f_69)), (m8, .inl (c8, 8, .inl (fun _ => 0)))] := hD
  refine lv_iinc (v := 8) (lv' := [(7, .int 8), (6, .int 0), (0, .ref h0), (1, .int a1), (2, .int a2), (3, .int a3), (4, .int a4), (5, .int a5)]) hx hb dX9_lot_232 hl (k := 0) rfl (by decide) (by decide) rfl (fun ls hl => ?_)
  refine lv_goto (tgt := 205) hx hb dX9_lot_235 (by decide) ?_
  refine lv_iload hx hb dX9_lot_205 (lv_at hl 0 rfl) ?_
  refine lv_bipush (v := 8) hx hb dX9_lot_207 (by decide) ?_
  refine lv_icmp_ge (tgt := 238) hx hb dX9_lot_209 (by decide) (fun c_70 => ?_) (fun c_70 => absurd (by decide) c_70)
  refine lv_aload_n hx hb dX9_lot_238 rfl (lv_at hl 2 rfl) ?_
  refine va_get (D := D) (ci := 9) (v := .ref m4) (C := RX9) (T := TX9) (N := 44) hx hb hts hin9 hown hK hP 0 rfl rfl 4 (by decide) (hts (.fieldLink RX9 23 "HoneyHouseModel" "lot" "[I") (List.mem_of_getElem? (i := 3) rfl)) (fun _ h9 => h9) rfl dX9_lot_239 ?_
  refine lv_bipush (v := 7) hx hb dX9_lot_242 (by decide) ?_
  refine lv_iload hx hb dX9_lot_244 (lv_at hl 1 rfl) ?_
  refine lv_imul hx hb dX9_lot_246 ?_
  refine tp_i (y := 0) (by decide) ?_
  refine lv_bipush (v := 6) hx hb dX9_lot_247 (by decide) ?_
  refine lv_iadd hx hb dX9_lot_249 ?_
  refine tp_i (y := 6) (by decide) ?_
  refine lv_aload_n hx hb dX9_lot_250 rfl (lv_at hl 2 rfl) ?_
  refine lv_iload hx hb dX9_lot_251 (lv_at hl 1 rfl) ?_
  refine lv_iload_n hx hb dX9_lot_253 rfl (lv_at hl 5 rfl) ?_
  refine vp_callSi (W.runV (As := [.int 0, .int a3]) (rest := [.int 6, .ref m4]) ⟨hx, hb, hml, hown, hts⟩ (s_X9_pay l D [(h0, .inr (9, [.ref m0, .int 0, .int 0, .int 1, .ref m4, .ref m5, .ref m6, .ref m7, .ref m8, .ref m9, .ref m10, .ref m11, .ref m12, .int 0, .int 0, .ref m15, .ref m16, .ref m17, .ref m18, .ref m19, .ref m20, .int 0, .int (-1), .ref m23, .ref m24, .int 0, .int 0, .int 0, .ref m28, .int 0, .int 0, .int 0, .ref m32, .ref m33, .ref m34, .int 0, .ref m36, .ref m37, .ref m38, .ref m39, .ref m40, .ref m41, .ref m42, .int 0])), (m4, .inl (c4, 280, .inl f_37)), (m5, .inl (c5, 200, .inl f_51)), (m6, .inl (c6, 200, .inl f_52)), (m7, .inl (c7, 320, .inl f_69)), (m8, .inl (c8, 8, .inl (fun _ => 0)))] [(c4, .int), (c5, .int), (c6, .int), (c7, .int), (c8, .int)] h0 0 m4 m7 1 4 _ c4 c7 0 3 f_37 f_69 a3 rfl rfl rfl rfl rfl rfl rfl) (cwV 2 hts gX9_lot_X9_pay rfl rfl rfl (by decide +kernel) ⟨Nat.le_of_ble_eq_true rfl, Nat.le_of_ble_eq_true rfl⟩) ⟨fun a U g mk q => ⟨q.1, q.2.1, va_K.moved (u := U) (U := U.calling g mk a) (Vm.Alike.refl U.vm) q.2.2⟩, va_recv hK hP (ci := 9) (q0 := 0) rfl rfl, fun U hU hW => ⟨rfl, by rw [hU]; exact hP, va_K.moved hW.alike hK⟩⟩ rfl rfl hl.1 rfl (lv_room (Nat.le_of_ble_eq_true rfl)) dX9_lot_254 ⟨Nat.le_of_ble_eq_true rfl, Nat.le_of_ble_eq_true rfl⟩) (fun r_71 k_72 => ?_)
  refine va_iast (f := f_37) (n := 280) hx hb hK hP hD hS 1 0 rfl rfl (vp_in_iff.mpr (by decide)) dX9_lot_257 (fun H locs hP hD hS => ?_)
  have hP : va_P D vwCl [(h0, .inr (9, [.ref m0, .int 0, .int 0, .int 1, .ref m4, .ref m5, .ref m6, .ref m7, .ref m8, .ref m9, .ref m10, .ref m11, .ref m12, .int 0, .int 0, .ref m15, .ref m16, .ref m17, .ref m18, .ref m19, .ref m20, .int 0, .int (-1), .ref m23, .ref m24, .int 0, .int 0, .int 0, .ref m28, .int 0, .int 0, .int 0, .ref m32, .ref m33, .ref m34, .int 0, .ref m36, .ref m37, .ref m38, .ref m39, .ref m40, .ref m41, .ref m42, .int 0])), (m4, .inl (c4, 280, .inl (upd f_37 6 r_71))), (m5, .inl (c5, 200, .inl f_51)), (m6, .inl (c6, 200, .inl f_52)), (m7, .inl (c7, 320, .inl f_69)), (m8, .inl (c8, 8, .inl (fun _ => 0)))] H := hP
  have hD : va_D A [(h0, .inr (9, [.ref m0, .int 0, .int 0, .int 1, .ref m4, .ref m5, .ref m6, .ref m7, .ref m8, .ref m9, .ref m10, .ref m11, .ref m12, .int 0, .int 0, .ref m15, .ref m16, .ref m17, .ref m18, .ref m19, .ref m20, .int 0, .int (-1), .ref m23, .ref m24, .int 0, .int 0, .int 0, .ref m28, .int 0, .int 0, .int 0, .ref m32, .ref m33, .ref m34, .int 0, .ref m36, .ref m37, .ref m38, .ref m39, .ref m40, .ref m41, .ref m42, .int 0])), (m4, .inl (c4, 280, .inl (upd f_37 6 r_71))), (m5, .inl (c5, 200, .inl f_51)), (m6, .inl (c6, 200, .inl f_52)), (m7, .inl (c7, 320, .inl f_69)), (m8, .inl (c8, 8, .inl (fun _ => 0)))] := hD
  generalize upd f_37 6 r_71 = f_73 at hP hD
  have hP : va_P D vwCl [(h0, .inr (9, [.ref m0, .int 0, .int 0, .int 1, .ref m4, .ref m5, .ref m6, .ref m7, .ref m8, .ref m9, .ref m10, .ref m11, .ref m12, .int 0, .int 0, .ref m15, .ref m16, .ref m17, .ref m18, .ref m19, .ref m20, .int 0, .int (-1), .ref m23, .ref m24, .int 0, .int 0, .int 0, .ref m28, .int 0, .int 0, .int 0, .ref m32, .ref m33, .ref m34, .int 0, .ref m36, .ref m37, .ref m38, .ref m39, .ref m40, .ref m41, .ref m42, .int 0])), (m4, .inl (c4, 280, .inl f_73)), (m5, .inl (c5, 200, .inl f_51)), (m6, .inl (c6, 200, .inl f_52)), (m7, .inl (c7, 320, .inl f_69)), (m8, .inl (c8, 8, .inl (fun _ => 0)))] H := hP
  have hD : va_D A [(h0, .inr (9, [.ref m0, .int 0, .int 0, .int 1, .ref m4, .ref m5, .ref m6, .ref m7, .ref m8, .ref m9, .ref m10, .ref m11, .ref m12, .int 0, .int 0, .ref m15, .ref m16, .ref m17, .ref m18, .ref m19, .ref m20, .int 0, .int (-1), .ref m23, .ref m24, .int 0, .int 0, .int 0, .ref m28, .int 0, .int 0, .int 0, .ref m32, .ref m33, .ref m34, .int 0, .ref m36, .ref m37, .ref m38, .ref m39, .ref m40, .ref m41, .ref m42, .int 0])), (m4, .inl (c4, 280, .inl f_73)), (m5, .inl (c5, 200, .inl f_51)), (m6, .inl (c6, 200, .inl f_52)), (m7, .inl (c7, 320, .inl f_69)), (m8, .inl (c8, 8, .inl (fun _ => 0)))] := hD
  refine lv_iload hx hb dX9_lot_258 (lv_at hl 1 rfl) ?_
  have hP9 := hP.sub (ws' := []) [] rfl
  have hD9 := hD.sub (ws' := []) [] (by decide) rfl
  have hK9 := hK.sub (tys' := []) [] rfl
  refine W.widen (k := 0) (n := 0) (by omega) (by omega) ?_
  exact W.iret (v := 0) hx hb hr (fun t ht hW => ⟨⟨0, (), rfl, (by first | rfl | (simp_all; done) | simp [a_3, b_4, c_6, a_9, b_10, c_12, a_15, b_16, c_18, a_21, b_22, c_24, a_27, b_28, c_30, c_31, c_38, c_41, c_44, c_47, c_50, c_53, c_54, c_56, c_58, c_60, c_62, c_64, c_66, c_68, c_70]), by rw [ht]; exact hP9, va_K.moved hW.alike hK9, hD9⟩, hS.F ht⟩) hS.2.2 dX9_lot_260
