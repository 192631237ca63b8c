theorem dX9_either_0 : decode cX9_either 0 = .ok (.aload_n 0, 1) := by decide +kernel
theorem dX9_either_1 : decode cX9_either 1 = .ok (.iconst 0, 1) := by decide +kernel
theorem dX9_either_2 : decode cX9_either 2 = .ok (.putfield 99, 3) := by decide +kernel
theorem dX9_either_5 : decode cX9_either 5 = .ok (.aload_n 0, 1) := by decide +kernel
theorem dX9_either_6 : decode cX9_either 6 = .ok (.iconst 0, 1) := by decide +kernel
theorem dX9_either_7 : decode cX9_either 7 = .ok (.putfield 102, 3) := by decide +kernel
theorem dX9_either_10 : decode cX9_either 10 = .ok (.aload_n 0, 1) := by decide +kernel
theorem dX9_either_11 : decode cX9_either 11 = .ok (.iconst 0, 1) := by decide +kernel
theorem dX9_either_12 : decode cX9_either 12 = .ok (.putfield 105, 3) := by decide +kernel
theorem dX9_either_15 : decode cX9_either 15 = .ok (.iconst 1, 1) := by decide +kernel
theorem dX9_either_16 : decode cX9_either 16 = .ok (.istore_n 1, 1) := by decide +kernel
theorem dX9_either_17 : decode cX9_either 17 = .ok (.iconst 1, 1) := by decide +kernel
theorem dX9_either_18 : decode cX9_either 18 = .ok (.istore_n 2, 1) := by decide +kernel
theorem dX9_either_19 : decode cX9_either 19 = .ok (.iload_n 2, 1) := by decide +kernel
theorem dX9_either_20 : decode cX9_either 20 = .ok (.ifCond .eq 185, 3) := by decide +kernel
theorem dX9_either_23 : decode cX9_either 23 = .ok (.aload_n 0, 1) := by decide +kernel
theorem dX9_either_24 : decode cX9_either 24 = .ok (.getfield 74, 3) := by decide +kernel
theorem dX9_either_27 : decode cX9_either 27 = .ok (.ifCond .ne 178, 3) := by decide +kernel
theorem dX9_either_30 : decode cX9_either 30 = .ok (.aload_n 0, 1) := by decide +kernel
theorem dX9_either_31 : decode cX9_either 31 = .ok (.invokevirtual 191, 3) := by decide +kernel
theorem dX9_either_34 : decode cX9_either 34 = .ok (.istore_n 3, 1) := by decide +kernel
theorem dX9_either_35 : decode cX9_either 35 = .ok (.aload_n 0, 1) := by decide +kernel
theorem dX9_either_36 : decode cX9_either 36 = .ok (.invokevirtual 238, 3) := by decide +kernel
theorem dX9_either_39 : decode cX9_either 39 = .ok (.istore 4, 2) := by decide +kernel
theorem dX9_either_41 : decode cX9_either 41 = .ok (.iload_n 1, 1) := by decide +kernel
theorem dX9_either_42 : decode cX9_either 42 = .ok (.ifCond .eq 34, 3) := by decide +kernel
theorem dX9_either_45 : decode cX9_either 45 = .ok (.iload_n 3, 1) := by decide +kernel
theorem dX9_either_46 : decode cX9_either 46 = .ok (.bipush 40, 2) := by decide +kernel
theorem dX9_either_48 : decode cX9_either 48 = .ok (.if_icmp .eq 9, 3) := by decide +kernel
theorem dX9_either_51 : decode cX9_either 51 = .ok (.iload 4, 2) := by decide +kernel
theorem dX9_either_53 : decode cX9_either 53 = .ok (.iconst 3, 1) := by decide +kernel
theorem dX9_either_54 : decode cX9_either 54 = .ok (.if_icmp .ne 22, 3) := by decide +kernel
theorem dX9_either_57 : decode cX9_either 57 = .ok (.aload_n 0, 1) := by decide +kernel
theorem dX9_either_58 : decode cX9_either 58 = .ok (.iload_n 3, 1) := by decide +kernel
theorem dX9_either_59 : decode cX9_either 59 = .ok (.bipush 40, 2) := by decide +kernel
theorem dX9_either_61 : decode cX9_either 61 = .ok (.if_icmp .ne 8, 3) := by decide +kernel
theorem dX9_either_64 : decode cX9_either 64 = .ok (.bipush 12, 2) := by decide +kernel
theorem dX9_either_66 : decode cX9_either 66 = .ok (.goto 4, 3) := by decide +kernel
theorem dX9_either_69 : decode cX9_either 69 = .ok (.iconst 3, 1) := by decide +kernel
theorem dX9_either_70 : decode cX9_either 70 = .ok (.invokevirtual 247, 3) := by decide +kernel
theorem dX9_either_73 : decode cX9_either 73 = .ok (.goto 129, 3) := by decide +kernel
theorem dX9_either_76 : decode cX9_either 76 = .ok (.iload_n 1, 1) := by decide +kernel
theorem dX9_either_77 : decode cX9_either 77 = .ok (.ifCond .eq 16, 3) := by decide +kernel
theorem dX9_either_80 : decode cX9_either 80 = .ok (.aload_n 0, 1) := by decide +kernel
theorem dX9_either_81 : decode cX9_either 81 = .ok (.invokevirtual 250, 3) := by decide +kernel
theorem dX9_either_84 : decode cX9_either 84 = .ok (.aload_n 0, 1) := by decide +kernel
theorem dX9_either_85 : decode cX9_either 85 = .ok (.invokevirtual 253, 3) := by decide +kernel
theorem dX9_either_88 : decode cX9_either 88 = .ok (.iconst 0, 1) := by decide +kernel
theorem dX9_either_89 : decode cX9_either 89 = .ok (.istore_n 1, 1) := by decide +kernel
theorem dX9_either_90 : decode cX9_either 90 = .ok (.goto 112, 3) := by decide +kernel
theorem dX9_either_93 : decode cX9_either 93 = .ok (.iload 4, 2) := by decide +kernel
theorem dX9_either_95 : decode cX9_either 95 = .ok (.iconst 2, 1) := by decide +kernel
theorem dX9_either_96 : decode cX9_either 96 = .ok (.if_icmp .eq 9, 3) := by decide +kernel
theorem dX9_either_99 : decode cX9_either 99 = .ok (.iload 4, 2) := by decide +kernel
theorem dX9_either_101 : decode cX9_either 101 = .ok (.iconst 1, 1) := by decide +kernel
theorem dX9_either_102 : decode cX9_either 102 = .ok (.if_icmp .ne 43, 3) := by decide +kernel
theorem dX9_either_105 : decode cX9_either 105 = .ok (.aload_n 0, 1) := by decide +kernel
theorem dX9_either_106 : decode cX9_either 106 = .ok (.iload 4, 2) := by decide +kernel
theorem dX9_either_108 : decode cX9_either 108 = .ok (.invokevirtual 256, 3) := by decide +kernel
theorem dX9_either_111 : decode cX9_either 111 = .ok (.aload_n 0, 1) := by decide +kernel
theorem dX9_either_112 : decode cX9_either 112 = .ok (.getfield 96, 3) := by decide +kernel
theorem dX9_either_115 : decode cX9_either 115 = .ok (.aload_n 0, 1) := by decide +kernel
theorem dX9_either_116 : decode cX9_either 116 = .ok (.getfield 99, 3) := by decide +kernel
theorem dX9_either_119 : decode cX9_either 119 = .ok (.iload 4, 2) := by decide +kernel
theorem dX9_either_121 : decode cX9_either 121 = .ok (.iastore, 1) := by decide +kernel
theorem dX9_either_122 : decode cX9_either 122 = .ok (.aload_n 0, 1) := by decide +kernel
theorem dX9_either_123 : decode cX9_either 123 = .ok (.dup, 1) := by decide +kernel
theorem dX9_either_124 : decode cX9_either 124 = .ok (.getfield 99, 3) := by decide +kernel
theorem dX9_either_127 : decode cX9_either 127 = .ok (.iconst 1, 1) := by decide +kernel
theorem dX9_either_128 : decode cX9_either 128 = .ok (.iadd, 1) := by decide +kernel
theorem dX9_either_129 : decode cX9_either 129 = .ok (.putfield 99, 3) := by decide +kernel
theorem dX9_either_132 : decode cX9_either 132 = .ok (.aload_n 0, 1) := by decide +kernel
theorem dX9_either_133 : decode cX9_either 133 = .ok (.aload_n 0, 1) := by decide +kernel
theorem dX9_either_134 : decode cX9_either 134 = .ok (.invokevirtual 229, 3) := by decide +kernel
theorem dX9_either_137 : decode cX9_either 137 = .ok (.putfield 87, 3) := by decide +kernel
theorem dX9_either_140 : decode cX9_either 140 = .ok (.iconst 1, 1) := by decide +kernel
theorem dX9_either_141 : decode cX9_either 141 = .ok (.istore_n 1, 1) := by decide +kernel
theorem dX9_either_142 : decode cX9_either 142 = .ok (.goto 60, 3) := by decide +kernel
theorem dX9_either_145 : decode cX9_either 145 = .ok (.iload_n 3, 1) := by decide +kernel
theorem dX9_either_146 : decode cX9_either 146 = .ok (.bipush 41, 2) := by decide +kernel
theorem dX9_either_148 : decode cX9_either 148 = .ok (.if_icmp .ne 52, 3) := by decide +kernel
theorem dX9_either_151 : decode cX9_either 151 = .ok (.aload_n 0, 1) := by decide +kernel
theorem dX9_either_152 : decode cX9_either 152 = .ok (.invokevirtual 259, 3) := by decide +kernel
theorem dX9_either_155 : decode cX9_either 155 = .ok (.ifCond .le 45, 3) := by decide +kernel
theorem dX9_either_158 : decode cX9_either 158 = .ok (.aload_n 0, 1) := by decide +kernel
theorem dX9_either_159 : decode cX9_either 159 = .ok (.iconst 1, 1) := by decide +kernel
theorem dX9_either_160 : decode cX9_either 160 = .ok (.invokevirtual 256, 3) := by decide +kernel
theorem dX9_either_163 : decode cX9_either 163 = .ok (.aload_n 0, 1) := by decide +kernel
theorem dX9_either_164 : decode cX9_either 164 = .ok (.dup, 1) := by decide +kernel
theorem dX9_either_165 : decode cX9_either 165 = .ok (.getfield 99, 3) := by decide +kernel
theorem dX9_either_168 : decode cX9_either 168 = .ok (.iconst 1, 1) := by decide +kernel
theorem dX9_either_169 : decode cX9_either 169 = .ok (.isub, 1) := by decide +kernel
theorem dX9_either_170 : decode cX9_either 170 = .ok (.putfield 99, 3) := by decide +kernel
theorem dX9_either_173 : decode cX9_either 173 = .ok (.aload_n 0, 1) := by decide +kernel
theorem dX9_either_174 : decode cX9_either 174 = .ok (.dup, 1) := by decide +kernel
theorem dX9_either_175 : decode cX9_either 175 = .ok (.getfield 105, 3) := by decide +kernel
theorem dX9_either_178 : decode cX9_either 178 = .ok (.iconst 1, 1) := by decide +kernel
theorem dX9_either_179 : decode cX9_either 179 = .ok (.isub, 1) := by decide +kernel
theorem dX9_either_180 : decode cX9_either 180 = .ok (.putfield 105, 3) := by decide +kernel
theorem dX9_either_183 : decode cX9_either 183 = .ok (.aload_n 0, 1) := by decide +kernel
theorem dX9_either_184 : decode cX9_either 184 = .ok (.dup, 1) := by decide +kernel
theorem dX9_either_185 : decode cX9_either 185 = .ok (.getfield 87, 3) := by decide +kernel
theorem dX9_either_188 : decode cX9_either 188 = .ok (.iconst 1, 1) := by decide +kernel
theorem dX9_either_189 : decode cX9_either 189 = .ok (.iadd, 1) := by decide +kernel
theorem dX9_either_190 : decode cX9_either 190 = .ok (.putfield 87, 3) := by decide +kernel
theorem dX9_either_193 : decode cX9_either 193 = .ok (.aload_n 0, 1) := by decide +kernel
theorem dX9_either_194 : decode cX9_either 194 = .ok (.invokevirtual 253, 3) := by decide +kernel
theorem dX9_either_197 : decode cX9_either 197 = .ok (.goto 5, 3) := by decide +kernel
theorem dX9_either_200 : decode cX9_either 200 = .ok (.iconst 0, 1) := by decide +kernel
theorem dX9_either_201 : decode cX9_either 201 = .ok (.istore_n 2, 1) := by decide +kernel
theorem dX9_either_202 : decode cX9_either 202 = .ok (.goto (-183), 3) := by decide +kernel
theorem dX9_either_205 : decode cX9_either 205 = .ok (.aload_n 0, 1) := by decide +kernel
theorem dX9_either_206 : decode cX9_either 206 = .ok (.getfield 74, 3) := by decide +kernel
theorem dX9_either_209 : decode cX9_either 209 = .ok (.ifCond .ne 19, 3) := by decide +kernel
theorem dX9_either_212 : decode cX9_either 212 = .ok (.aload_n 0, 1) := by decide +kernel
theorem dX9_either_213 : decode cX9_either 213 = .ok (.invokevirtual 259, 3) := by decide +kernel
theorem dX9_either_216 : decode cX9_either 216 = .ok (.ifCond .le 12, 3) := by decide +kernel
theorem dX9_either_219 : decode cX9_either 219 = .ok (.aload_n 0, 1) := by decide +kernel
theorem dX9_either_220 : decode cX9_either 220 = .ok (.iconst 1, 1) := by decide +kernel
theorem dX9_either_221 : decode cX9_either 221 = .ok (.aload_n 0, 1) := by decide +kernel
theorem dX9_either_222 : decode cX9_either 222 = .ok (.getfield 87, 3) := by decide +kernel
theorem dX9_either_225 : decode cX9_either 225 = .ok (.invokevirtual 195, 3) := by decide +kernel
theorem dX9_either_228 : decode cX9_either 228 = .ok (.aload_n 0, 1) := by decide +kernel
theorem dX9_either_229 : decode cX9_either 229 = .ok (.iconst 1, 1) := by decide +kernel
theorem dX9_either_230 : decode cX9_either 230 = .ok (.invokevirtual 256, 3) := by decide +kernel
theorem dX9_either_233 : decode cX9_either 233 = .ok (.return_, 1) := by decide +kernel
set_option maxRecDepth 20000 in
theorem ggX9_either_X9_joins : GoodIn wsX9_either wsX9_joins := goodIn_r _ [78, 1, 5, 65, 66, 67, 10, 68, 69, 70, 2, 83, 84, 85, 86, 87, 88, 89, 90, 91, 92, 93, 94, 95, 96, 97, 98, 99, 100, 101, 102, 103, 104, 105, 106, 107, 108, 109, 110, 111, 112, 113, 114, 115, 116, 117, 118, 119, 120, 121, 122, 123, 124, 125, 126] rfl (by decide +kernel)
set_option maxRecDepth 20000 in
theorem gX9_either_X9_joins : GoodIn wsX9_either (wsV RX9 256 RX9 yX9_joins wsX9_joins) := goodIn_app (goodIn_of _ (by decide +kernel)) ggX9_either_X9_joins
set_option maxRecDepth 20000 in
theorem ggX9_either_X9_brackets : GoodIn wsX9_either wsX9_brackets := goodIn_r _ [82, 1, 5, 83, 84, 85, 86, 87, 88, 89, 90, 91, 92, 93, 94, 95, 96, 97, 98, 99, 100, 101, 102, 103, 104, 105, 106, 107, 108, 109, 110, 111, 112, 113, 114, 115, 116, 117, 118, 119, 120, 121, 122, 123, 124, 125, 126] rfl (by decide +kernel)
set_option maxRecDepth 20000 in
theorem gX9_either_X9_brackets : GoodIn wsX9_either (wsV RX9 259 RX9 yX9_brackets wsX9_brackets) := goodIn_app (goodIn_of _ (by decide +kernel)) ggX9_either_X9_brackets
set_option maxRecDepth 20000 in
theorem ggX9_either_X9_blame : GoodIn wsX9_either wsX9_blame := goodIn_r _ [52, 4, 53, 83, 84, 85, 86, 87, 88, 89, 90, 91, 92, 93, 94, 95, 96, 97, 98, 99, 100, 101, 102, 103, 104, 105, 106, 107, 108, 109, 110, 111, 112, 113, 114, 115, 116, 117, 118, 119, 120, 121, 122, 123, 124, 125, 126] rfl (by decide +kernel)
set_option maxRecDepth 20000 in
theorem gX9_either_X9_blame : GoodIn wsX9_either (wsV RX9 195 RX9 yX9_blame wsX9_blame) := goodIn_app (goodIn_of _ (by decide +kernel)) ggX9_either_X9_blame
set_option maxRecDepth 20000 in
theorem ggX9_either_X9_here : GoodIn wsX9_either wsX9_here := goodIn_r _ [11, 6, 12, 13, 83, 84, 85, 86, 87, 88, 89, 90, 91, 92, 93, 94, 95, 96, 97, 98, 99, 100, 101, 102, 103, 104, 105, 106, 107, 108, 109, 110, 111, 112, 113, 114, 115, 116, 117, 118, 119, 120, 121, 122, 123, 124, 125, 126] rfl (by decide +kernel)
set_option maxRecDepth 20000 in
theorem gX9_either_X9_here : GoodIn wsX9_either (wsV RX9 191 RX9 yX9_here wsX9_here) := goodIn_app (goodIn_of _ (by decide +kernel)) ggX9_either_X9_here
set_option maxRecDepth 20000 in
theorem ggX9_either_X9_peek : GoodIn wsX9_either wsX9_peek := goodIn_r _ [17, 7, 8, 9, 10, 11, 6, 12, 13, 18, 19, 20, 21, 22, 23, 24, 25, 26, 27, 28, 29, 30, 31, 32, 33, 34, 35, 36, 37, 38, 39, 40, 41, 42, 43, 44, 83, 84, 85, 86, 87, 88, 89, 90, 91, 92, 93, 94, 95, 96, 97, 98, 99, 100, 101, 102, 103, 104, 105, 106, 107, 108, 109, 110, 111, 112, 113, 114, 115, 116, 117, 118, 119, 120, 121, 122, 123, 124, 125, 126] rfl (by decide +kernel)
set_option maxRecDepth 20000 in
theorem gX9_either_X9_peek : GoodIn wsX9_either (wsV RX9 238 RX9 yX9_peek wsX9_peek) := goodIn_app (goodIn_of _ (by decide +kernel)) ggX9_either_X9_peek
set_option maxRecDepth 20000 in
theorem ggX9_either_X9_nots : GoodIn wsX9_either wsX9_nots := goodIn_r _ [74, 1, 5, 3, 65, 66, 67, 10, 68, 69, 70, 2, 83, 84, 85, 86, 87, 88, 89, 90, 91, 92, 93, 94, 95, 96, 97, 98, 99, 100, 101, 102, 103, 104, 105, 106, 107, 108, 109, 110, 111, 112, 113, 114, 115, 116, 117, 118, 119, 120, 121, 122, 123, 124, 125, 126] rfl (by decide +kernel)
set_option maxRecDepth 20000 in
theorem gX9_either_X9_nots : GoodIn wsX9_either (wsV RX9 253 RX9 yX9_nots wsX9_nots) := goodIn_app (goodIn_of _ (by decide +kernel)) ggX9_either_X9_nots
set_option maxRecDepth 20000 in
theorem ggX9_either_X9_opens : GoodIn wsX9_either wsX9_opens := goodIn_r _ [48, 3, 6, 4, 5, 1, 49, 50, 51, 10, 52, 53, 21, 22, 23, 24, 12, 13, 18, 19, 20, 83, 84, 85, 86, 87, 88, 89, 90, 91, 92, 93, 94, 95, 96, 97, 98, 99, 100, 101, 102, 103, 104, 105, 106, 107, 108, 109, 110, 111, 112, 113, 114, 115, 116, 117, 118, 119, 120, 121, 122, 123, 124, 125, 126] rfl (by decide +kernel)
set_option maxRecDepth 20000 in
theorem gX9_either_X9_opens : GoodIn wsX9_either (wsV RX9 247 RX9 yX9_opens wsX9_opens) := goodIn_app (goodIn_of _ (by decide +kernel)) ggX9_either_X9_opens
set_option maxRecDepth 20000 in
theorem ggX9_either_X9_test_ : GoodIn wsX9_either wsX9_test_ := goodIn_r _ [57, 6, 4, 14, 15, 16, 10, 17, 7, 8, 9, 11, 12, 13, 18, 19, 20, 21, 22, 23, 24, 25, 26, 27, 28, 29, 30, 31, 32, 33, 34, 35, 36, 37, 38, 39, 40, 41, 42, 43, 44, 49, 50, 51, 52, 53, 58, 59, 60, 61, 62, 63, 64, 65, 66, 67, 68, 69, 70, 2, 83, 84, 85, 86, 87, 88, 89, 90, 91, 92, 93, 94, 95, 96, 97, 98, 99, 100, 101, 102, 103, 104, 105, 106, 107, 108, 109, 110, 111, 112, 113, 114, 115, 116, 117, 118, 119, 120, 121, 122, 123, 124, 125, 126] rfl (by decide +kernel)
set_option maxRecDepth 20000 in
theorem gX9_either_X9_test_ : GoodIn wsX9_either (wsV RX9 250 RX9 yX9_test_ wsX9_test_) := goodIn_app (goodIn_of _ (by decide +kernel)) ggX9_either_X9_test_
set_option maxRecDepth 20000 in
theorem ggX9_either_X9_wordEnd : GoodIn wsX9_either wsX9_wordEnd := goodIn_r _ [24, 6, 12, 13, 18, 19, 10, 20, 83, 84, 85, 86, 87, 88, 89, 90, 91, 92, 93, 94, 95, 96, 97, 98, 99, 100, 101, 102, 103, 104, 105, 106, 107, 108, 109, 110, 111, 112, 113, 114, 115, 116, 117, 118, 119, 120, 121, 122, 123, 124, 125, 126] rfl (by decide +kernel)
set_option maxRecDepth 20000 in
theorem gX9_either_X9_wordEnd : GoodIn wsX9_either (wsV RX9 229 RX9 yX9_wordEnd wsX9_wordEnd) := goodIn_app (goodIn_of _ (by decide +kernel)) ggX9_either_X9_wordEnd
set_option maxHeartbeats 4000000 in
set_option maxRecDepth 100000 in
theorem m_either (l : Launch) (D : va_G) (h0 : Nat) (ad : Nat → Nat) (cs : Nat → ClassId) (iv : Nat → Int32) (fv : Nat → Nat → Int32) (gv : Nat → Int64) (n14 n21 n25 n26 : Nat)  (sz : Nat) (h14 : iv 14 = nI n14) (h21 : iv 21 = nI n21) (h25 : iv 25 = nI n25) (h26 : iv 26 = nI n26) (b15 : n14 ≤ 15) (z21 : n21 = 0) (b25 : n25 ≤ n26) (b26 : n26 ≤ 400) : Met l yX9_either wsX9_either ({ frames := 4, cells := 0, slots := 0, locals := 91 }) (va_Pc [.ref h0] (fun U => U.heap.size = sz ∧ va_P D vwCl (mw h0 ad cs iv fv gv) U.heap ∧ va_K D vwCl (mT cs) U ∧ va_D (fun _ => True) (mw h0 ad cs iv fv gv))) (va_Qv (fun _ : Unit => True) (fun (_ : Unit) (t : State) => ∃ (k21 : Nat) (p22 : Int32) (k25 : Nat) (k29 : Nat) (k30 : Nat) (k31 : Nat) (f19 : Nat → Int32) (f28 : Nat → Int32), (k21 ≤ 3) ∧ (k25 ≤ n26) ∧ (k30 ≤ 200) ∧ (∀ i : Nat, i < 200 * n14 → f19 i = fv 19 i) ∧ (1 ≤ k21 ∨ ∃ n : Nat, wfs f19 (200 * n14) k30 n) ∧ va_P D vwCl (mw h0 ad cs (upd (upd (upd (upd (upd (upd iv 21 (nI k21)) 22 p22) 25 (nI k25)) 29 (nI k29)) 30 (nI k30)) 31 (nI k31)) (uF (uF fv 19 f19) 28 f28) gv) t.heap ∧ va_K D vwCl (mT cs) t ∧ va_D (va_A (mw h0 ad cs iv fv gv) sz) (mw h0 ad cs (upd (upd (upd (upd (upd (upd iv 21 (nI k21)) 22 p22) 25 (nI k25)) 29 (nI k29)) 30 (nI k30)) 31 (nI k31)) (uF (uF fv 19 f19) 28 f28) gv)) (va_A (mw h0 ad cs iv fv gv) sz)) 0 0 (va_A (mw h0 ad cs iv fv gv) sz) := by
  refine Met.ofW (cc := cX9_either) (maxL := 5) (ret := none) (by decide) rfl ?_
  intro p e s m args below meth c s₁ B hml hv
  obtain ⟨rfl, hsz, hP, hK, hD0⟩ := hv
  have hx := B.exec
  have hb := B.bytes
  have hr := B.returns
  have hts := atoms_spec (ws := wsX9_either) B.pre
  have hown : s.vm.findClass RX9 = some m.cls := findClass_of_methodNamed B.named
  have hlocks := B.notSynchronized
  subst hsz
  have hD := hD0.self (sz := s.heap.size)
  generalize hAe : va_A (mw h0 ad cs iv fv gv) s.heap.size = A at hD ⊢
  have hA : ∀ q : Nat, s.heap.size ≤ q → A q := fun q h => by rw [← hAe]; exact Or.inr h
  have hS : va_S A s.heap s.heap [] := va_S.rf
  have hin9 : ∀ w ∈ u_ws RX9 TX9 44, w ∈ wsX9_either := (fun _ h9 => List.mem_cons_of_mem _ ((List.mem_append_right _ h9)))
  have hl := lv_entry ([.ref h0]) (n := 5) (Nat.le_of_ble_eq_true rfl)
  rw [lg_entry_eq]
  generalize (lg_sl ([.ref h0]) ++ List.replicate (5 - (lg_sl ([.ref h0])).length) Slot.unset).toArray = ls at hl ⊢
  have hl : lv_has ls 5 [(0, .ref h0)] := hl
  refine lv_aload_n hx hb dX9_either_0 rfl (lv_at hl 0 rfl) ?_
  refine lv_iconst (v := 0) hx hb dX9_either_1 (by decide) ?_
  refine va_put (D := D) (ci := 9) (v := .int 0) (ty := .int) (C := RX9) (T := TX9) (N := 44) hx hb hts hin9 tyX9 tyX9_ok nmX9 hown hK hP hD hS 0 rfl rfl 29 (by decide) (hts (.fieldLink RX9 99 "HoneyHouseModel" "piled" "I") (List.mem_of_getElem? (i := 1) rfl)) (fun _ h9 => h9) rfl (tyX9_ok 29 (by decide)) rfl rfl (Nat.le_of_ble_eq_true rfl) dX9_either_2 (fun H locs hP hD hS => ?_)
  have hP : va_P D vwCl (mw h0 ad cs (upd iv 29 0) fv gv) H := hP
  have hD : va_D A (mw h0 ad cs (upd iv 29 0) fv gv) := hD
  refine lv_aload_n hx hb dX9_either_5 rfl (lv_at hl 0 rfl) ?_
  refine lv_iconst (v := 0) hx hb dX9_either_6 (by decide) ?_
  refine va_put (D := D) (ci := 9) (v := .int 0) (ty := .int) (C := RX9) (T := TX9) (N := 44) hx hb hts hin9 tyX9 tyX9_ok nmX9 hown hK hP hD hS 0 rfl rfl 30 (by decide) (hts (.fieldLink RX9 102 "HoneyHouseModel" "made" "I") (List.mem_of_getElem? (i := 2) rfl)) (fun _ h9 => h9) rfl (tyX9_ok 30 (by decide)) rfl rfl (Nat.le_of_ble_eq_true rfl) dX9_either_7 (fun H locs hP hD hS => ?_)
  have hP : va_P D vwCl (mw h0 ad cs (upd (upd iv 29 0) 30 0) fv gv) H := hP
  have hD : va_D A (mw h0 ad cs (upd (upd iv 29 0) 30 0) fv gv) := hD
  refine lv_aload_n hx hb dX9_either_10 rfl (lv_at hl 0 rfl) ?_
  refine lv_iconst (v := 0) hx hb dX9_either_11 (by decide) ?_
  refine va_put (D := D) (ci := 9) (v := .int 0) (ty := .int) (C := RX9) (T := TX9) (N := 44) hx hb hts hin9 tyX9 tyX9_ok nmX9 hown hK hP hD hS 0 rfl rfl 31 (by decide) (hts (.fieldLink RX9 105 "HoneyHouseModel" "deep" "I") (List.mem_of_getElem? (i := 3) rfl)) (fun _ h9 => h9) rfl (tyX9_ok 31 (by decide)) rfl rfl (Nat.le_of_ble_eq_true rfl) dX9_either_12 (fun H locs hP hD hS => ?_)
  have hP : va_P D vwCl (mw h0 ad cs (upd (upd (upd iv 29 0) 30 0) 31 0) fv gv) H := hP
  have hD : va_D A (mw h0 ad cs (upd (upd (upd iv 29 0) 30 0) 31 0) fv gv) := hD
  refine lv_iconst (v := 1) hx hb dX9_either_15 (by decide) ?_
  refine lv_istore_n (lv' := [(1, .int 1), (0, .ref h0)]) hx hb dX9_either_16 rfl hl (by decide) rfl (fun ls hl => ?_)
  refine lv_iconst (v := 1) hx hb dX9_either_17 (by decide) ?_
  refine lv_istore_n (lv' := [(2, .int 1), (1, .int 1), (0, .ref h0)]) hx hb dX9_either_18 rfl hl (by decide) rfl (fun ls hl => ?_)
  have hP : va_P D vwCl (mw h0 ad cs (upd (upd (upd (upd (upd iv 21 (iv 21)) 25 (iv 25)) 29 0) 30 0) 31 0) fv gv) H := hP
  have hD : va_D A (mw h0 ad cs (upd (upd (upd (upd (upd iv 21 (iv 21)) 25 (iv 25)) 29 0) 30 0) 31 0) fv gv) := hD
  rw [h25, h21] at hP hD
  refine lp_V (nL := 5) (σ := Nat × Nat × Nat × Nat × Int32 × Nat × Nat × Nat × (Nat → Int32) × (Nat → Int32) × Nat × Nat × Nat × Nat) (lv := fun x9 => [(1, .int (nI x9.1)), (2, .int (nI x9.2.1)), (0, .ref h0)]) (μ := fun x9 => 2 * (n26 - x9.2.2.1) + x9.2.1 + (1 - x9.2.2.2.1)) (J := fun x9 ws9 => ws9 = (mw h0 ad cs (upd (upd (upd (upd (upd (upd iv 21 (nI x9.2.2.2.1)) 22 x9.2.2.2.2.1) 25 (nI x9.2.2.1)) 29 (nI x9.2.2.2.2.2.1)) 30 (nI x9.2.2.2.2.2.2.1)) 31 (nI x9.2.2.2.2.2.2.2.1)) (uF (uF fv 19 x9.2.2.2.2.2.2.2.2.1) 28 x9.2.2.2.2.2.2.2.2.2.1) gv) ∧ (x9.1 ≤ 1) ∧ (x9.2.1 ≤ 1) ∧ (1 ≤ x9.2.1 ∨ x9.1 = 0) ∧ (x9.2.2.1 ≤ n26) ∧ (2 * (x9.2.2.2.2.2.2.1 + x9.2.2.2.2.2.2.2.2.2.2.2.2.1 + x9.2.2.2.2.2.2.2.2.2.2.1) ≤ x9.2.2.1) ∧ (x9.2.2.2.1 ≤ 3) ∧ (pil x9.2.2.2.2.2.2.2.2.2.1 x9.2.2.2.2.2.1 x9.2.2.2.2.2.2.2.2.2.2.1 x9.2.2.2.2.2.2.2.2.2.2.2.1 x9.2.2.2.2.2.2.2.2.2.2.2.2.1 x9.2.2.2.2.2.2.2.2.2.2.2.2.2) ∧ (x9.2.2.2.2.2.2.2.1 = x9.2.2.2.2.2.2.2.2.2.2.1 + x9.2.2.2.2.2.2.2.2.2.2.2.1) ∧ (x9.2.2.2.2.2.2.2.2.2.2.1 + x9.2.2.2.2.2.2.2.2.2.2.2.1 ≤ 6) ∧ (1 ≤ x9.2.2.2.1 ∨ wfs x9.2.2.2.2.2.2.2.2.1 (200 * n14) x9.2.2.2.2.2.2.1 (x9.2.2.2.2.2.2.2.2.2.2.2.2.1 + (1 - x9.1))) ∧ (∀ i : Nat, i < 200 * n14 → x9.2.2.2.2.2.2.2.2.1 i = fv 19 i)) (fun x9 ws9 H locs ls hj hP hD hS hl ih_1 => ?_) (1, 1, n25, n21, iv 22, 0, 0, 0, fv 19, fv 28, 0, 0, 0, 0) (mw h0 ad cs (upd (upd (upd (upd (upd iv 21 (nI n21)) 25 (nI n25)) 29 0) 30 0) 31 0) fv gv) _ _ ls ⟨rfl, (show 1 ≤ 1 from by omega), (show 1 ≤ 1 from by omega), (show 1 ≤ 1 ∨ 1 = 0 from by omega), (show n25 ≤ n26 from by omega), (show 2 * (0 + 0 + 0) ≤ n25 from by omega), (show n21 ≤ 3 from by omega), (show pil (fv 28) 0 0 0 0 0 from pil.nil), (show 0 = 0 + 0 from by omega), (show 0 + 0 ≤ 6 from by omega), (show 1 ≤ n21 ∨ wfs (fv 19) (200 * n14) 0 (0 + (1 - 1)) from Or.inr wfs.nil), (show ∀ i : Nat, i < 200 * n14 → (fv 19) i = fv 19 i from fun i h9 => rfl)⟩ hP hD hS (lv_sub hl [1, 0, 2] rfl)
  obtain ⟨du_2, mo_3, a_4, fk_5, p22_6, p_7, d_8, q_9, f19_10, f28_11, x_12, y_13, j_14, k_15⟩ := x9
  replace hj : ws9 = (mw h0 ad cs (upd (upd (upd (upd (upd (upd iv 21 (nI fk_5)) 22 p22_6) 25 (nI a_4)) 29 (nI p_7)) 30 (nI d_8)) 31 (nI q_9)) (uF (uF fv 19 f19_10) 28 f28_11) gv) ∧ (du_2 ≤ 1) ∧ (mo_3 ≤ 1) ∧ (1 ≤ mo_3 ∨ du_2 = 0) ∧ (a_4 ≤ n26) ∧ (2 * (d_8 + j_14 + x_12) ≤ a_4) ∧ (fk_5 ≤ 3) ∧ (pil f28_11 p_7 x_12 y_13 j_14 k_15) ∧ (q_9 = x_12 + y_13) ∧ (x_12 + y_13 ≤ 6) ∧ (1 ≤ fk_5 ∨ wfs f19_10 (200 * n14) d_8 (j_14 + (1 - du_2))) ∧ (∀ i : Nat, i < 200 * n14 → f19_10 i = fv 19 i) := hj
  obtain ⟨rfl, hdu_16, hmo_17, hmd_18, ha_19, hsz_20, hfk_21, hp_22, hq_23, h6_24, hw_25, hfr_26⟩ := hj
  have hl : lv_has ls 5 [(1, .int (nI du_2)), (2, .int (nI mo_3)), (0, .ref h0)] := hl
  have hlen := hp_22.len
  refine lv_iload_n hx hb dX9_either_19 rfl (lv_at hl 1 rfl) ?_
  refine lv_if_eq (tgt := 205) hx hb dX9_either_20 (by decide) (fun c_27 => ?_) (fun c_27 => ?_)
  · have d_28 := n_eq (a := mo_3) (b := 0) (by omega) (by omega) c_27
    obtain rfl : du_2 = 0 := by omega
    refine lv_aload_n hx hb dX9_either_205 rfl (lv_at hl 2 rfl) ?_
    refine va_get (D := D) (ci := 9) (v := .int (nI fk_5)) (C := RX9) (T := TX9) (N := 44) hx hb hts hin9 hown hK hP 0 rfl rfl 21 (by decide) (hts (.fieldLink RX9 74 "HoneyHouseModel" "faultKind" "I") (List.mem_of_getElem? (i := 4) rfl)) (fun _ h9 => h9) rfl dX9_either_206 ?_
    refine lv_if_ne (tgt := 228) hx hb dX9_either_209 (by decide) (fun c_29 => ?_) (fun c_29 => ?_)
    · have d_30 := n_ne (a := fk_5) (b := 0) (by omega) (by omega) c_29
      refine lv_aload_n hx hb dX9_either_228 rfl (lv_at hl 2 rfl) ?_
      refine lv_iconst (v := 1) hx hb dX9_either_229 (by decide) ?_
      have hFc := free_all hD hS hA
      refine va_callv (va_runV (As := [.int 1]) (rest := []) ⟨hx, hb, hml, hown, hts⟩ (m_joins l D h0 ad cs (upd (upd (upd (upd (upd (upd iv 21 (nI fk_5)) 22 p22_6) 25 (nI a_4)) 29 (nI p_7)) 30 (nI d_8)) 31 (nI q_9)) (uF (uF fv 19 f19_10) 28 f28_11) gv n14 p_7 d_8 1 x_12 y_13 j_14 k_15 H.size h14 rfl rfl (by omega) (by omega) hp_22 (by omega) (by omega)) (cwV 1 hts gX9_either_X9_joins rfl rfl rfl (by decide +kernel) ⟨Nat.le_of_ble_eq_true rfl, Nat.le_of_ble_eq_true rfl⟩) ⟨fun a U g mk q => by obtain ⟨q0, q1, qP, qK, qD⟩ := q; exact ⟨q0, q1, qP, va_K.moved (u := U) (U := U.calling g mk a) (Vm.Alike.refl U.vm) qK, qD⟩, va_recv hK hP (ci := 9) (q0 := 0) rfl rfl, fun U hU hW => ⟨rfl, by rw [hU], by rw [hU]; exact hP, va_K.moved hW.alike hK, hD.weaken (fun _ _ _ _ => trivial)⟩⟩ rfl rfl hl.1 rfl (lv_room (Nat.le_of_ble_eq_true rfl)) dX9_either_230 ⟨Nat.le_of_ble_eq_true rfl, Nat.le_of_ble_eq_true rfl⟩) hS (fun q _ h => hFc q h) hFc (fun u t H1 locs ht hvm w_32 hB hz1 hk1 hS => ?_)
      obtain ⟨k29_33, k30_34, f19_35, gj2_36, gk2_37, q_38, q_39, q_40, q_41, q_42, q_43, q_44, q_45, hP1, hK1, hD1⟩ := hB
      replace q_38 : pil ((f28_11)) k29_33 x_12 y_13 gj2_36 gk2_37 := q_38
      replace q_42 : ∀ i : Nat, k29_33 ≤ i → i < p_7 → (f28_11) i = 1 ∨ (f28_11) i = 2 := q_42
      replace q_43 : ∀ i : Nat, i < 200 * n14 → f19_35 i = (f19_10) i := q_43
      replace q_44 : wfs ((f19_10)) (200 * n14) d_8 (j_14 + 1) → wfs f19_35 (200 * n14) k30_34 (gj2_36 + 1) := q_44
      rw [ht] at hP1
      have hK := va_K.moved hvm.symm hK1
      generalize H1 = H at hP1 hS ⊢
      have hP : va_P D vwCl (mw h0 ad cs (upd (upd (upd (upd (upd (upd iv 21 (nI fk_5)) 22 p22_6) 25 (nI a_4)) 29 (nI k29_33)) 30 (nI k30_34)) 31 (nI q_9)) (uF (uF fv 19 f19_35) 28 f28_11) gv) H := hP1
      have hD : va_D A (mw h0 ad cs (upd (upd (upd (upd (upd (upd iv 21 (nI fk_5)) 22 p22_6) 25 (nI a_4)) 29 (nI k29_33)) 30 (nI k30_34)) 31 (nI q_9)) (uF (uF fv 19 f19_35) 28 f28_11) gv) := hD1.weaken (fun _ _ _ h => hFc _ h)
      have hfr_46 : ∀ i : Nat, i < 200 * n14 → f19_35 i = fv 19 i := fun i h9 => (q_43 i h9).trans (hfr_26 i h9)
      have hlen2 := q_38.len
      have hP : va_P D vwCl (mw h0 ad cs (upd (upd (upd (upd (upd (upd iv 21 (nI fk_5)) 22 p22_6) 25 (nI a_4)) 29 (nI k29_33)) 30 (nI k30_34)) 31 (nI q_9)) (uF (uF fv 19 f19_35) 28 f28_11) gv) H := hP
      have hD : va_D A (mw h0 ad cs (upd (upd (upd (upd (upd (upd iv 21 (nI fk_5)) 22 p22_6) 25 (nI a_4)) 29 (nI k29_33)) 30 (nI k30_34)) 31 (nI q_9)) (uF (uF fv 19 f19_35) 28 f28_11) gv) := hD
      exact W.vret hx hb hr (fun t ht hW => ⟨⟨(), rfl, trivial, fk_5, p22_6, a_4, k29_33, k30_34, q_9, f19_35, f28_11, by omega, by omega, by omega, hfr_46, (hw_25.elim (fun h9 => Or.inl (by omega)) (fun h9 => Or.inr ⟨_, q_44 h9⟩)), by rw [ht]; exact hP, va_K.moved hW.alike hK, hD⟩, hS.F ht⟩) hS.2.2 dX9_either_233
    have d_47 := n_eq (a := fk_5) (b := 0) (by omega) (by omega) c_29
    refine lv_aload_n hx hb dX9_either_212 rfl (lv_at hl 2 rfl) ?_
    refine vp_callSi (W.runV (As := []) (rest := []) ⟨hx, hb, hml, hown, hts⟩ (m_brackets l D h0 ad cs (upd (upd (upd (upd (upd (upd iv 21 (nI fk_5)) 22 p22_6) 25 (nI a_4)) 29 (nI p_7)) 30 (nI d_8)) 31 (nI q_9)) (uF (uF fv 19 f19_10) 28 f28_11) gv p_7  rfl (by omega)) (cwV 0 hts gX9_either_X9_brackets rfl rfl rfl (by decide +kernel) ⟨Nat.le_of_ble_eq_true rfl, Nat.le_of_ble_eq_true rfl⟩) ⟨fun a U g mk q => ⟨q.1, q.2.1, va_K.moved (u := U) (U := U.calling g mk a) (Vm.Alike.refl U.vm) q.2.2⟩, va_recv hK hP (ci := 9) (q0 := 0) rfl rfl, fun U hU hW => ⟨rfl, by rw [hU]; exact hP, va_K.moved hW.alike hK⟩⟩ rfl rfl hl.1 rfl (lv_room (Nat.le_of_ble_eq_true rfl)) dX9_either_213 ⟨Nat.le_of_ble_eq_true rfl, Nat.le_of_ble_eq_true rfl⟩) (fun r_48 k_49 => ?_)
    obtain ⟨b_50, rfl, hb_51, hb_52⟩ := k_49
    refine lv_if_le (tgt := 228) hx hb dX9_either_216 (by decide) (fun c_53 => ?_) (fun c_53 => ?_)
    · have d_54 := n_le (a := b_50) (b := 0) (by omega) (by omega) c_53
      refine lv_aload_n hx hb dX9_either_228 rfl (lv_at hl 2 rfl) ?_
      refine lv_iconst (v := 1) hx hb dX9_either_229 (by decide) ?_
      have hFc := free_all hD hS hA
      refine va_callv (va_runV (As := [.int 1]) (rest := []) ⟨hx, hb, hml, hown, hts⟩ (m_joins l D h0 ad cs (upd (upd (upd (upd (upd (upd iv 21 (nI fk_5)) 22 p22_6) 25 (nI a_4)) 29 (nI p_7)) 30 (nI d_8)) 31 (nI q_9)) (uF (uF fv 19 f19_10) 28 f28_11) gv n14 p_7 d_8 1 x_12 y_13 j_14 k_15 H.size h14 rfl rfl (by omega) (by omega) hp_22 (by omega) (by omega)) (cwV 1 hts gX9_either_X9_joins rfl rfl rfl (by decide +kernel) ⟨Nat.le_of_ble_eq_true rfl, Nat.le_of_ble_eq_true rfl⟩) ⟨fun a U g mk q => by obtain ⟨q0, q1, qP, qK, qD⟩ := q; exact ⟨q0, q1, qP, va_K.moved (u := U) (U := U.calling g mk a) (Vm.Alike.refl U.vm) qK, qD⟩, va_recv hK hP (ci := 9) (q0 := 0) rfl rfl, fun U hU hW => ⟨rfl, by rw [hU], by rw [hU]; exact hP, va_K.moved hW.alike hK, hD.weaken (fun _ _ _ _ => trivial)⟩⟩ rfl rfl hl.1 rfl (lv_room (Nat.le_of_ble_eq_true rfl)) dX9_either_230 ⟨Nat.le_of_ble_eq_true rfl, Nat.le_of_ble_eq_true rfl⟩) hS (fun q _ h => hFc q h) hFc (fun u t H1 locs ht hvm w_56 hB hz1 hk1 hS => ?_)
      obtain ⟨k29_57, k30_58, f19_59, gj2_60, gk2_61, q_62, q_63, q_64, q_65, q_66, q_67, q_68, q_69, hP1, hK1, hD1⟩ := hB
      replace q_62 : pil ((f28_11)) k29_57 x_12 y_13 gj2_60 gk2_61 := q_62
      replace q_66 : ∀ i : Nat, k29_57 ≤ i → i < p_7 → (f28_11) i = 1 ∨ (f28_11) i = 2 := q_66
      replace q_67 : ∀ i : Nat, i < 200 * n14 → f19_59 i = (f19_10) i := q_67
      replace q_68 : wfs ((f19_10)) (200 * n14) d_8 (j_14 + 1) → wfs f19_59 (200 * n14) k30_58 (gj2_60 + 1) := q_68
      rw [ht] at hP1
      have hK := va_K.moved hvm.symm hK1
      generalize H1 = H at hP1 hS ⊢
      have hP : va_P D vwCl (mw h0 ad cs (upd (upd (upd (upd (upd (upd iv 21 (nI fk_5)) 22 p22_6) 25 (nI a_4)) 29 (nI k29_57)) 30 (nI k30_58)) 31 (nI q_9)) (uF (uF fv 19 f19_59) 28 f28_11) gv) H := hP1
      have hD : va_D A (mw h0 ad cs (upd (upd (upd (upd (upd (upd iv 21 (nI fk_5)) 22 p22_6) 25 (nI a_4)) 29 (nI k29_57)) 30 (nI k30_58)) 31 (nI q_9)) (uF (uF fv 19 f19_59) 28 f28_11) gv) := hD1.weaken (fun _ _ _ h => hFc _ h)
      have hfr_70 : ∀ i : Nat, i < 200 * n14 → f19_59 i = fv 19 i := fun i h9 => (q_67 i h9).trans (hfr_26 i h9)
      have hlen2 := q_62.len
      have hP : va_P D vwCl (mw h0 ad cs (upd (upd (upd (upd (upd (upd iv 21 (nI fk_5)) 22 p22_6) 25 (nI a_4)) 29 (nI k29_57)) 30 (nI k30_58)) 31 (nI q_9)) (uF (uF fv 19 f19_59) 28 f28_11) gv) H := hP
      have hD : va_D A (mw h0 ad cs (upd (upd (upd (upd (upd (upd iv 21 (nI fk_5)) 22 p22_6) 25 (nI a_4)) 29 (nI k29_57)) 30 (nI k30_58)) 31 (nI q_9)) (uF (uF fv 19 f19_59) 28 f28_11) gv) := hD
      exact W.vret hx hb hr (fun t ht hW => ⟨⟨(), rfl, trivial, fk_5, p22_6, a_4, k29_57, k30_58, q_9, f19_59, f28_11, by omega, by omega, by omega, hfr_70, (hw_25.elim (fun h9 => Or.inl (by omega)) (fun h9 => Or.inr ⟨_, q_68 h9⟩)), by rw [ht]; exact hP, va_K.moved hW.alike hK, hD⟩, hS.F ht⟩) hS.2.2 dX9_either_233
    have d_71 := n_nle (a := b_50) (b := 0) (by omega) (by omega) c_53
    refine lv_aload_n hx hb dX9_either_219 rfl (lv_at hl 2 rfl) ?_
    refine lv_iconst (v := 1) hx hb dX9_either_220 (by decide) ?_
    refine lv_aload_n hx hb dX9_either_221 rfl (lv_at hl 2 rfl) ?_
    refine va_get (D := D) (ci := 9) (v := .int (nI a_4)) (C := RX9) (T := TX9) (N := 44) hx hb hts hin9 hown hK hP 0 rfl rfl 25 (by decide) (hts (.fieldLink RX9 87 "HoneyHouseModel" "at" "I") (List.mem_of_getElem? (i := 6) rfl)) (fun _ h9 => h9) rfl dX9_either_222 ?_
    have hFc := free_all hD hS hA
    refine va_callv (va_runV (As := [.int 1, .int (nI a_4)]) (rest := []) ⟨hx, hb, hml, hown, hts⟩ (m_blame l D h0 ad cs (upd (upd (upd (upd (upd (upd iv 21 (nI fk_5)) 22 p22_6) 25 (nI a_4)) 29 (nI p_7)) 30 (nI d_8)) 31 (nI q_9)) (uF (uF fv 19 f19_10) 28 f28_11) gv fk_5 1 (nI a_4) H.size rfl (by omega) (by omega)) (cwV 2 hts gX9_either_X9_blame rfl rfl rfl (by decide +kernel) ⟨Nat.le_of_ble_eq_true rfl, Nat.le_of_ble_eq_true rfl⟩) ⟨fun a U g mk q => by obtain ⟨q0, q1, qP, qK, qD⟩ := q; exact ⟨q0, q1, qP, va_K.moved (u := U) (U := U.calling g mk a) (Vm.Alike.refl U.vm) qK, qD⟩, va_recv hK hP (ci := 9) (q0 := 0) rfl rfl, fun U hU hW => ⟨rfl, by rw [hU], by rw [hU]; exact hP, va_K.moved hW.alike hK, hD.weaken (fun _ _ _ _ => trivial)⟩⟩ rfl rfl hl.1 rfl (lv_room (Nat.le_of_ble_eq_true rfl)) dX9_either_225 ⟨Nat.le_of_ble_eq_true rfl, Nat.le_of_ble_eq_true rfl⟩) hS (fun q _ h => hFc q h) hFc (fun u t H1 locs ht hvm w_73 hB hz1 hk1 hS => ?_)
    obtain ⟨k21_74, p22_75, q_76, q_77, hP1, hK1, hD1⟩ := hB
    rw [ht] at hP1
    have hK := va_K.moved hvm.symm hK1
    generalize H1 = H at hP1 hS ⊢
    have hP : va_P D vwCl (mw h0 ad cs (upd (upd (upd (upd (upd (upd iv 21 (nI k21_74)) 22 p22_75) 25 (nI a_4)) 29 (nI p_7)) 30 (nI d_8)) 31 (nI q_9)) (uF (uF fv 19 f19_10) 28 f28_11) gv) H := hP1
    have hD : va_D A (mw h0 ad cs (upd (upd (upd (upd (upd (upd iv 21 (nI k21_74)) 22 p22_75) 25 (nI a_4)) 29 (nI p_7)) 30 (nI d_8)) 31 (nI q_9)) (uF (uF fv 19 f19_10) 28 f28_11) gv) := hD1.weaken (fun _ _ _ h => hFc _ h)
    refine lv_aload_n hx hb dX9_either_228 rfl (lv_at hl 2 rfl) ?_
    refine lv_iconst (v := 1) hx hb dX9_either_229 (by decide) ?_
    have hFc := free_all hD hS hA
    refine va_callv (va_runV (As := [.int 1]) (rest := []) ⟨hx, hb, hml, hown, hts⟩ (m_joins l D h0 ad cs (upd (upd (upd (upd (upd (upd iv 21 (nI k21_74)) 22 p22_75) 25 (nI a_4)) 29 (nI p_7)) 30 (nI d_8)) 31 (nI q_9)) (uF (uF fv 19 f19_10) 28 f28_11) gv n14 p_7 d_8 1 x_12 y_13 j_14 k_15 H.size h14 rfl rfl (by omega) (by omega) hp_22 (by omega) (by omega)) (cwV 1 hts gX9_either_X9_joins rfl rfl rfl (by decide +kernel) ⟨Nat.le_of_ble_eq_true rfl, Nat.le_of_ble_eq_true rfl⟩) ⟨fun a U g mk q => by obtain ⟨q0, q1, qP, qK, qD⟩ := q; exact ⟨q0, q1, qP, va_K.moved (u := U) (U := U.calling g mk a) (Vm.Alike.refl U.vm) qK, qD⟩, va_recv hK hP (ci := 9) (q0 := 0) rfl rfl, fun U hU hW => ⟨rfl, by rw [hU], by rw [hU]; exact hP, va_K.moved hW.alike hK, hD.weaken (fun _ _ _ _ => trivial)⟩⟩ rfl rfl hl.1 rfl (lv_room (Nat.le_of_ble_eq_true rfl)) dX9_either_230 ⟨Nat.le_of_ble_eq_true rfl, Nat.le_of_ble_eq_true rfl⟩) hS (fun q _ h => hFc q h) hFc (fun u t H1 locs ht hvm w_79 hB hz1 hk1 hS => ?_)
    obtain ⟨k29_80, k30_81, f19_82, gj2_83, gk2_84, q_85, q_86, q_87, q_88, q_89, q_90, q_91, q_92, hP1, hK1, hD1⟩ := hB
    replace q_85 : pil ((f28_11)) k29_80 x_12 y_13 gj2_83 gk2_84 := q_85
    replace q_89 : ∀ i : Nat, k29_80 ≤ i → i < p_7 → (f28_11) i = 1 ∨ (f28_11) i = 2 := q_89
    replace q_90 : ∀ i : Nat, i < 200 * n14 → f19_82 i = (f19_10) i := q_90
    replace q_91 : wfs ((f19_10)) (200 * n14) d_8 (j_14 + 1) → wfs f19_82 (200 * n14) k30_81 (gj2_83 + 1) := q_91
    rw [ht] at hP1
    have hK := va_K.moved hvm.symm hK1
    generalize H1 = H at hP1 hS ⊢
    have hP : va_P D vwCl (mw h0 ad cs (upd (upd (upd (upd (upd (upd iv 21 (nI k21_74)) 22 p22_75) 25 (nI a_4)) 29 (nI k29_80)) 30 (nI k30_81)) 31 (nI q_9)) (uF (uF fv 19 f19_82) 28 f28_11) gv) H := hP1
    have hD : va_D A (mw h0 ad cs (upd (upd (upd (upd (upd (upd iv 21 (nI k21_74)) 22 p22_75) 25 (nI a_4)) 29 (nI k29_80)) 30 (nI k30_81)) 31 (nI q_9)) (uF (uF fv 19 f19_82) 28 f28_11) gv) := hD1.weaken (fun _ _ _ h => hFc _ h)
    have hfr_93 : ∀ i : Nat, i < 200 * n14 → f19_82 i = fv 19 i := fun i h9 => (q_90 i h9).trans (hfr_26 i h9)
    have hlen2 := q_85.len
    have hP : va_P D vwCl (mw h0 ad cs (upd (upd (upd (upd (upd (upd iv 21 (nI k21_74)) 22 p22_75) 25 (nI a_4)) 29 (nI k29_80)) 30 (nI k30_81)) 31 (nI q_9)) (uF (uF fv 19 f19_82) 28 f28_11) gv) H := hP
    have hD : va_D A (mw h0 ad cs (upd (upd (upd (upd (upd (upd iv 21 (nI k21_74)) 22 p22_75) 25 (nI a_4)) 29 (nI k29_80)) 30 (nI k30_81)) 31 (nI q_9)) (uF (uF fv 19 f19_82) 28 f28_11) gv) := hD
    exact W.vret hx hb hr (fun t ht hW => ⟨⟨(), rfl, trivial, k21_74, p22_75, a_4, k29_80, k30_81, q_9, f19_82, f28_11, by omega, by omega, by omega, hfr_93, Or.inl (by omega), by rw [ht]; exact hP, va_K.moved hW.alike hK, hD⟩, hS.F ht⟩) hS.2.2 dX9_either_233
  have d_94 := n_ne (a := mo_3) (b := 0) (by omega) (by omega) c_27
  refine lv_aload_n hx hb dX9_either_23 rfl (lv_at hl 2 rfl) ?_
  refine va_get (D := D) (ci := 9) (v := .int (nI fk_5)) (C := RX9) (T := TX9) (N := 44) hx hb hts hin9 hown hK hP 0 rfl rfl 21 (by decide) (hts (.fieldLink RX9 74 "HoneyHouseModel" "faultKind" "I") (List.mem_of_getElem? (i := 4) rfl)) (fun _ h9 => h9) rfl dX9_either_24 ?_
  refine lv_if_ne (tgt := 205) hx hb dX9_either_27 (by decide) (fun c_95 => ?_) (fun c_95 => ?_)
  · have d_96 := n_ne (a := fk_5) (b := 0) (by omega) (by omega) c_95
    refine lv_aload_n hx hb dX9_either_205 rfl (lv_at hl 2 rfl) ?_
    refine va_get (D := D) (ci := 9) (v := .int (nI fk_5)) (C := RX9) (T := TX9) (N := 44) hx hb hts hin9 hown hK hP 0 rfl rfl 21 (by decide) (hts (.fieldLink RX9 74 "HoneyHouseModel" "faultKind" "I") (List.mem_of_getElem? (i := 4) rfl)) (fun _ h9 => h9) rfl dX9_either_206 ?_
    refine lv_if_ne (tgt := 228) hx hb dX9_either_209 (by decide) (fun c_97 => ?_) (fun c_97 => ?_)
    · have d_98 := n_ne (a := fk_5) (b := 0) (by omega) (by omega) c_97
      refine lv_aload_n hx hb dX9_either_228 rfl (lv_at hl 2 rfl) ?_
      refine lv_iconst (v := 1) hx hb dX9_either_229 (by decide) ?_
      have hFc := free_all hD hS hA
      refine va_callv (va_runV (As := [.int 1]) (rest := []) ⟨hx, hb, hml, hown, hts⟩ (m_joins l D h0 ad cs (upd (upd (upd (upd (upd (upd iv 21 (nI fk_5)) 22 p22_6) 25 (nI a_4)) 29 (nI p_7)) 30 (nI d_8)) 31 (nI q_9)) (uF (uF fv 19 f19_10) 28 f28_11) gv n14 p_7 d_8 1 x_12 y_13 j_14 k_15 H.size h14 rfl rfl (by omega) (by omega) hp_22 (by omega) (by omega)) (cwV 1 hts gX9_either_X9_joins rfl rfl rfl (by decide +kernel) ⟨Nat.le_of_ble_eq_true rfl, Nat.le_of_ble_eq_true rfl⟩) ⟨fun a U g mk q => by obtain ⟨q0, q1, qP, qK, qD⟩ := q; exact ⟨q0, q1, qP, va_K.moved (u := U) (U := U.calling g mk a) (Vm.Alike.refl U.vm) qK, qD⟩, va_recv hK hP (ci := 9) (q0 := 0) rfl rfl, fun U hU hW => ⟨rfl, by rw [hU], by rw [hU]; exact hP, va_K.moved hW.alike hK, hD.weaken (fun _ _ _ _ => trivial)⟩⟩ rfl rfl hl.1 rfl (lv_room (Nat.le_of_ble_eq_true rfl)) dX9_either_230 ⟨Nat.le_of_ble_eq_true rfl, Nat.le_of_ble_eq_true rfl⟩) hS (fun q _ h => hFc q h) hFc (fun u t H1 locs ht hvm w_100 hB hz1 hk1 hS => ?_)
      obtain ⟨k29_101, k30_102, f19_103, gj2_104, gk2_105, q_106, q_107, q_108, q_109, q_110, q_111, q_112, q_113, hP1, hK1, hD1⟩ := hB
      replace q_106 : pil ((f28_11)) k29_101 x_12 y_13 gj2_104 gk2_105 := q_106
      replace q_110 : ∀ i : Nat, k29_101 ≤ i → i < p_7 → (f28_11) i = 1 ∨ (f28_11) i = 2 := q_110
      replace q_111 : ∀ i : Nat, i < 200 * n14 → f19_103 i = (f19_10) i := q_111
      replace q_112 : wfs ((f19_10)) (200 * n14) d_8 (j_14 + 1) → wfs f19_103 (200 * n14) k30_102 (gj2_104 + 1) := q_112
      rw [ht] at hP1
      have hK := va_K.moved hvm.symm hK1
      generalize H1 = H at hP1 hS ⊢
      have hP : va_P D vwCl (mw h0 ad cs (upd (upd (upd (upd (upd (upd iv 21 (nI fk_5)) 22 p22_6) 25 (nI a_4)) 29 (nI k29_101)) 30 (nI k30_102)) 31 (nI q_9)) (uF (uF fv 19 f19_103) 28 f28_11) gv) H := hP1
      have hD : va_D A (mw h0 ad cs (upd (upd (upd (upd (upd (upd iv 21 (nI fk_5)) 22 p22_6) 25 (nI a_4)) 29 (nI k29_101)) 30 (nI k30_102)) 31 (nI q_9)) (uF (uF fv 19 f19_103) 28 f28_11) gv) := hD1.weaken (fun _ _ _ h => hFc _ h)
      have hfr_114 : ∀ i : Nat, i < 200 * n14 → f19_103 i = fv 19 i := fun i h9 => (q_111 i h9).trans (hfr_26 i h9)
      have hlen2 := q_106.len
      have hP : va_P D vwCl (mw h0 ad cs (upd (upd (upd (upd (upd (upd iv 21 (nI fk_5)) 22 p22_6) 25 (nI a_4)) 29 (nI k29_101)) 30 (nI k30_102)) 31 (nI q_9)) (uF (uF fv 19 f19_103) 28 f28_11) gv) H := hP
      have hD : va_D A (mw h0 ad cs (upd (upd (upd (upd (upd (upd iv 21 (nI fk_5)) 22 p22_6) 25 (nI a_4)) 29 (nI k29_101)) 30 (nI k30_102)) 31 (nI q_9)) (uF (uF fv 19 f19_103) 28 f28_11) gv) := hD
      exact W.vret hx hb hr (fun t ht hW => ⟨⟨(), rfl, trivial, fk_5, p22_6, a_4, k29_101, k30_102, q_9, f19_103, f28_11, by omega, by omega, by omega, hfr_114, Or.inl (by omega), by rw [ht]; exact hP, va_K.moved hW.alike hK, hD⟩, hS.F ht⟩) hS.2.2 dX9_either_233
    have d_115 := n_eq (a := fk_5) (b := 0) (by omega) (by omega) c_97
    refine lv_aload_n hx hb dX9_either_212 rfl (lv_at hl 2 rfl) ?_
    refine vp_callSi (W.runV (As := []) (rest := []) ⟨hx, hb, hml, hown, hts⟩ (m_brackets l D h0 ad cs (upd (upd (upd (upd (upd (upd iv 21 (nI fk_5)) 22 p22_6) 25 (nI a_4)) 29 (nI p_7)) 30 (nI d_8)) 31 (nI q_9)) (uF (uF fv 19 f19_10) 28 f28_11) gv p_7  rfl (by omega)) (cwV 0 hts gX9_either_X9_brackets rfl rfl rfl (by decide +kernel) ⟨Nat.le_of_ble_eq_true rfl, Nat.le_of_ble_eq_true rfl⟩) ⟨fun a U g mk q => ⟨q.1, q.2.1, va_K.moved (u := U) (U := U.calling g mk a) (Vm.Alike.refl U.vm) q.2.2⟩, va_recv hK hP (ci := 9) (q0 := 0) rfl rfl, fun U hU hW => ⟨rfl, by rw [hU]; exact hP, va_K.moved hW.alike hK⟩⟩ rfl rfl hl.1 rfl (lv_room (Nat.le_of_ble_eq_true rfl)) dX9_either_213 ⟨Nat.le_of_ble_eq_true rfl, Nat.le_of_ble_eq_true rfl⟩) (fun r_116 k_117 => ?_)
    obtain ⟨b_118, rfl, hb_119, hb_120⟩ := k_117
    refine lv_if_le (tgt := 228) hx hb dX9_either_216 (by decide) (fun c_121 => ?_) (fun c_121 => ?_)
    · have d_122 := n_le (a := b_118) (b := 0) (by omega) (by omega) c_121
      refine lv_aload_n hx hb dX9_either_228 rfl (lv_at hl 2 rfl) ?_
      refine lv_iconst (v := 1) hx hb dX9_either_229 (by decide) ?_
      have hFc := free_all hD hS hA
      refine va_callv (va_runV (As := [.int 1]) (rest := []) ⟨hx, hb, hml, hown, hts⟩ (m_joins l D h0 ad cs (upd (upd (upd (upd (upd (upd iv 21 (nI fk_5)) 22 p22_6) 25 (nI a_4)) 29 (nI p_7)) 30 (nI d_8)) 31 (nI q_9)) (uF (uF fv 19 f19_10) 28 f28_11) gv n14 p_7 d_8 1 x_12 y_13 j_14 k_15 H.size h14 rfl rfl (by omega) (by omega) hp_22 (by omega) (by omega)) (cwV 1 hts gX9_either_X9_joins rfl rfl rfl (by decide +kernel) ⟨Nat.le_of_ble_eq_true rfl, Nat.le_of_ble_eq_true rfl⟩) ⟨fun a U g mk q => by obtain ⟨q0, q1, qP, qK, qD⟩ := q; exact ⟨q0, q1, qP, va_K.moved (u := U) (U := U.calling g mk a) (Vm.Alike.refl U.vm) qK, qD⟩, va_recv hK hP (ci := 9) (q0 := 0) rfl rfl, fun U hU hW => ⟨rfl, by rw [hU], by rw [hU]; exact hP, va_K.moved hW.alike hK, hD.weaken (fun _ _ _ _ => trivial)⟩⟩ rfl rfl hl.1 rfl (lv_room (Nat.le_of_ble_eq_true rfl)) dX9_either_230 ⟨Nat.le_of_ble_eq_true rfl, Nat.le_of_ble_eq_true rfl⟩) hS (fun q _ h => hFc q h) hFc (fun u t H1 locs ht hvm w_124 hB hz1 hk1 hS => ?_)
      obtain ⟨k29_125, k30_126, f19_127, gj2_128, gk2_129, q_130, q_131, q_132, q_133, q_134, q_135, q_136, q_137, hP1, hK1, hD1⟩ := hB
      replace q_130 : pil ((f28_11)) k29_125 x_12 y_13 gj2_128 gk2_129 := q_130
      replace q_134 : ∀ i : Nat, k29_125 ≤ i → i < p_7 → (f28_11) i = 1 ∨ (f28_11) i = 2 := q_134
      replace q_135 : ∀ i : Nat, i < 200 * n14 → f19_127 i = (f19_10) i := q_135
      replace q_136 : wfs ((f19_10)) (200 * n14) d_8 (j_14 + 1) → wfs f19_127 (200 * n14) k30_126 (gj2_128 + 1) := q_136
      rw [ht] at hP1
      have hK := va_K.moved hvm.symm hK1
      generalize H1 = H at hP1 hS ⊢
      have hP : va_P D vwCl (mw h0 ad cs (upd (upd (upd (upd (upd (upd iv 21 (nI fk_5)) 22 p22_6) 25 (nI a_4)) 29 (nI k29_125)) 30 (nI k30_126)) 31 (nI q_9)) (uF (uF fv 19 f19_127) 28 f28_11) gv) H := hP1
      have hD : va_D A (mw h0 ad cs (upd (upd (upd (upd (upd (upd iv 21 (nI fk_5)) 22 p22_6) 25 (nI a_4)) 29 (nI k29_125)) 30 (nI k30_126)) 31 (nI q_9)) (uF (uF fv 19 f19_127) 28 f28_11) gv) := hD1.weaken (fun _ _ _ h => hFc _ h)
      have hfr_138 : ∀ i : Nat, i < 200 * n14 → f19_127 i = fv 19 i := fun i h9 => (q_135 i h9).trans (hfr_26 i h9)
      have hlen2 := q_130.len
      have hP : va_P D vwCl (mw h0 ad cs (upd (upd (upd (upd (upd (upd iv 21 (nI fk_5)) 22 p22_6) 25 (nI a_4)) 29 (nI k29_125)) 30 (nI k30_126)) 31 (nI q_9)) (uF (uF fv 19 f19_127) 28 f28_11) gv) H := hP
      have hD : va_D A (mw h0 ad cs (upd (upd (upd (upd (upd (upd iv 21 (nI fk_5)) 22 p22_6) 25 (nI a_4)) 29 (nI k29_125)) 30 (nI k30_126)) 31 (nI q_9)) (uF (uF fv 19 f19_127) 28 f28_11) gv) := hD
      exact W.vret hx hb hr (fun t ht hW => ⟨⟨(), rfl, trivial, fk_5, p22_6, a_4, k29_125, k30_126, q_9, f19_127, f28_11, by omega, by omega, by omega, hfr_138, Or.inl (by omega), by rw [ht]; exact hP, va_K.moved hW.alike hK, hD⟩, hS.F ht⟩) hS.2.2 dX9_either_233
    have d_139 := n_nle (a := b_118) (b := 0) (by omega) (by omega) c_121
    refine lv_aload_n hx hb dX9_either_219 rfl (lv_at hl 2 rfl) ?_
    refine lv_iconst (v := 1) hx hb dX9_either_220 (by decide) ?_
    refine lv_aload_n hx hb dX9_either_221 rfl (lv_at hl 2 rfl) ?_
    refine va_get (D := D) (ci := 9) (v := .int (nI a_4)) (C := RX9) (T := TX9) (N := 44) hx hb hts hin9 hown hK hP 0 rfl rfl 25 (by decide) (hts (.fieldLink RX9 87 "HoneyHouseModel" "at" "I") (List.mem_of_getElem? (i := 6) rfl)) (fun _ h9 => h9) rfl dX9_either_222 ?_
    have hFc := free_all hD hS hA
    refine va_callv (va_runV (As := [.int 1, .int (nI a_4)]) (rest := []) ⟨hx, hb, hml, hown, hts⟩ (m_blame l D h0 ad cs (upd (upd (upd (upd (upd (upd iv 21 (nI fk_5)) 22 p22_6) 25 (nI a_4)) 29 (nI p_7)) 30 (nI d_8)) 31 (nI q_9)) (uF (uF fv 19 f19_10) 28 f28_11) gv fk_5 1 (nI a_4) H.size rfl (by omega) (by omega)) (cwV 2 hts gX9_either_X9_blame rfl rfl rfl (by decide +kernel) ⟨Nat.le_of_ble_eq_true rfl, Nat.le_of_ble_eq_true rfl⟩) ⟨fun a U g mk q => by obtain ⟨q0, q1, qP, qK, qD⟩ := q; exact ⟨q0, q1, qP, va_K.moved (u := U) (U := U.calling g mk a) (Vm.Alike.refl U.vm) qK, qD⟩, va_recv hK hP (ci := 9) (q0 := 0) rfl rfl, fun U hU hW => ⟨rfl, by rw [hU], by rw [hU]; exact hP, va_K.moved hW.alike hK, hD.weaken (fun _ _ _ _ => trivial)⟩⟩ rfl rfl hl.1 rfl (lv_room (Nat.le_of_ble_eq_true rfl)) dX9_either_225 ⟨Nat.le_of_ble_eq_true rfl, Nat.le_of_ble_eq_true rfl⟩) hS (fun q _ h => hFc q h) hFc (fun u t H1 locs ht hvm w_141 hB hz1 hk1 hS => ?_)
    obtain ⟨k21_142, p22_143, q_144, q_145, hP1, hK1, hD1⟩ := hB
    rw [ht] at hP1
    have hK := va_K.moved hvm.symm hK1
    generalize H1 = H at hP1 hS ⊢
    have hP : va_P D vwCl (mw h0 ad cs (upd (upd (upd (upd (upd (upd iv 21 (nI k21_142)) 22 p22_143) 25 (nI a_4)) 29 (nI p_7)) 30 (nI d_8)) 31 (nI q_9)) (uF (uF fv 19 f19_10) 28 f28_11) gv) H := hP1
    have hD : va_D A (mw h0 ad cs (upd (upd (upd (upd (upd (upd iv 21 (nI k21_142)) 22 p22_143) 25 (nI a_4)) 29 (nI p_7)) 30 (nI d_8)) 31 (nI q_9)) (uF (uF fv 19 f19_10) 28 f28_11) gv) := hD1.weaken (fun _ _ _ h => hFc _ h)
    refine lv_aload_n hx hb dX9_either_228 rfl (lv_at hl 2 rfl) ?_
    refine lv_iconst (v := 1) hx hb dX9_either_229 (by decide) ?_
    have hFc := free_all hD hS hA
    refine va_callv (va_runV (As := [.int 1]) (rest := []) ⟨hx, hb, hml, hown, hts⟩ (m_joins l D h0 ad cs (upd (upd (upd (upd (upd (upd iv 21 (nI k21_142)) 22 p22_143) 25 (nI a_4)) 29 (nI p_7)) 30 (nI d_8)) 31 (nI q_9)) (uF (uF fv 19 f19_10) 28 f28_11) gv n14 p_7 d_8 1 x_12 y_13 j_14 k_15 H.size h14 rfl rfl (by omega) (by omega) hp_22 (by omega) (by omega)) (cwV 1 hts gX9_either_X9_joins rfl rfl rfl (by decide +kernel) ⟨Nat.le_of_ble_eq_true rfl, Nat.le_of_ble_eq_true rfl⟩) ⟨fun a U g mk q => by obtain ⟨q0, q1, qP, qK, qD⟩ := q; exact ⟨q0, q1, qP, va_K.moved (u := U) (U := U.calling g mk a) (Vm.Alike.refl U.vm) qK, qD⟩, va_recv hK hP (ci := 9) (q0 := 0) rfl rfl, fun U hU hW => ⟨rfl, by rw [hU], by rw [hU]; exact hP, va_K.moved hW.alike hK, hD.weaken (fun _ _ _ _ => trivial)⟩⟩ rfl rfl hl.1 rfl (lv_room (Nat.le_of_ble_eq_true rfl)) dX9_either_230 ⟨Nat.le_of_ble_eq_true rfl, Nat.le_of_ble_eq_true rfl⟩) hS (fun q _ h => hFc q h) hFc (fun u t H1 locs ht hvm w_147 hB hz1 hk1 hS => ?_)
    obtain ⟨k29_148, k30_149, f19_150, gj2_151, gk2_152, q_153, q_154, q_155, q_156, q_157, q_158, q_159, q_160, hP1, hK1, hD1⟩ := hB
    replace q_153 : pil ((f28_11)) k29_148 x_12 y_13 gj2_151 gk2_152 := q_153
    replace q_157 : ∀ i : Nat, k29_148 ≤ i → i < p_7 → (f28_11) i = 1 ∨ (f28_11) i = 2 := q_157
    replace q_158 : ∀ i : Nat, i < 200 * n14 → f19_150 i = (f19_10) i := q_158
    replace q_159 : wfs ((f19_10)) (200 * n14) d_8 (j_14 + 1) → wfs f19_150 (200 * n14) k30_149 (gj2_151 + 1) := q_159
    rw [ht] at hP1
    have hK := va_K.moved hvm.symm hK1
    generalize H1 = H at hP1 hS ⊢
    have hP : va_P D vwCl (mw h0 ad cs (upd (upd (upd (upd (upd (upd iv 21 (nI k21_142)) 22 p22_143) 25 (nI a_4)) 29 (nI k29_148)) 30 (nI k30_149)) 31 (nI q_9)) (uF (uF fv 19 f19_150) 28 f28_11) gv) H := hP1
    have hD : va_D A (mw h0 ad cs (upd (upd (upd (upd (upd (upd iv 21 (nI k21_142)) 22 p22_143) 25 (nI a_4)) 29 (nI k29_148)) 30 (nI k30_149)) 31 (nI q_9)) (uF (uF fv 19 f19_150) 28 f28_11) gv) := hD1.weaken (fun _ _ _ h => hFc _ h)
    have hfr_161 : ∀ i : Nat, i < 200 * n14 → f19_150 i = fv 19 i := fun i h9 => (q_158 i h9).trans (hfr_26 i h9)
    have hlen2 := q_153.len
    have hP : va_P D vwCl (mw h0 ad cs (upd (upd (upd (upd (upd (upd iv 21 (nI k21_142)) 22 p22_143) 25 (nI a_4)) 29 (nI k29_148)) 30 (nI k30_149)) 31 (nI q_9)) (uF (uF fv 19 f19_150) 28 f28_11) gv) H := hP
    have hD : va_D A (mw h0 ad cs (upd (upd (upd (upd (upd (upd iv 21 (nI k21_142)) 22 p22_143) 25 (nI a_4)) 29 (nI k29_148)) 30 (nI k30_149)) 31 (nI q_9)) (uF (uF fv 19 f19_150) 28 f28_11) gv) := hD
    exact W.vret hx hb hr (fun t ht hW => ⟨⟨(), rfl, trivial, k21_142, p22_143, a_4, k29_148, k30_149, q_9, f19_150, f28_11, by omega, by omega, by omega, hfr_161, Or.inl (by omega), by rw [ht]; exact hP, va_K.moved hW.alike hK, hD⟩, hS.F ht⟩) hS.2.2 dX9_either_233
  have d_162 := n_eq (a := fk_5) (b := 0) (by omega) (by omega) c_95
  obtain rfl : fk_5 = 0 := by omega
  have hw_163 := hw_25.resolve_left (by omega)
  refine lv_aload_n hx hb dX9_either_30 rfl (lv_at hl 2 rfl) ?_
  have hFc := free_all hD hS hA
  refine va_calli (va_runV (As := []) (rest := []) ⟨hx, hb, hml, hown, hts⟩ (m_here l D h0 ad cs (upd (upd (upd (upd (upd (upd iv 21 (nI (0))) 22 p22_6) 25 (nI a_4)) 29 (nI p_7)) 30 (nI d_8)) 31 (nI q_9)) (uF (uF fv 19 f19_10) 28 f28_11) gv a_4 n26  H.size rfl h26 (by omega) (by omega)) (cwV 0 hts gX9_either_X9_here rfl rfl rfl (by decide +kernel) ⟨Nat.le_of_ble_eq_true rfl, Nat.le_of_ble_eq_true rfl⟩) ⟨fun a U g mk q => by obtain ⟨q0, q1, qP, qK, qD⟩ := q; exact ⟨q0, q1, qP, va_K.moved (u := U) (U := U.calling g mk a) (Vm.Alike.refl U.vm) qK, qD⟩, va_recv hK hP (ci := 9) (q0 := 0) rfl rfl, fun U hU hW => ⟨rfl, by rw [hU], by rw [hU]; exact hP, va_K.moved hW.alike hK, hD.weaken (fun _ _ _ _ => trivial)⟩⟩ rfl rfl hl.1 rfl (lv_room (Nat.le_of_ble_eq_true rfl)) dX9_either_31 ⟨Nat.le_of_ble_eq_true rfl, Nat.le_of_ble_eq_true rfl⟩) hS (fun q _ h => hFc q h) hFc (fun r_164 u t H1 locs ht hvm w_165 hB hz1 hk1 hS => ?_)
  subst w_165
  obtain ⟨k25_166, q_167, q_168, q_169, q_170, q_171, hP1, hK1, hD1⟩ := hB
  replace q_169 : k25_166 = n26 ∨ ¬ blk ((fv 0) k25_166) := q_169
  replace q_170 : (a_4 = n26 ∨ ¬ blk ((fv 0) a_4)) → k25_166 = a_4 := q_170
  replace q_171 : (r_164 = (-1) ∧ k25_166 = n26) ∨ (k25_166 < n26 ∧ r_164 = (fv 0) k25_166) := q_171
  rw [ht] at hP1
  have hK := va_K.moved hvm.symm hK1
  generalize H1 = H at hP1 hS ⊢
  have hP : va_P D vwCl (mw h0 ad cs (upd (upd (upd (upd (upd (upd iv 21 (nI (0))) 22 p22_6) 25 (nI k25_166)) 29 (nI p_7)) 30 (nI d_8)) 31 (nI q_9)) (uF (uF fv 19 f19_10) 28 f28_11) gv) H := hP1
  have hD : va_D A (mw h0 ad cs (upd (upd (upd (upd (upd (upd iv 21 (nI (0))) 22 p22_6) 25 (nI k25_166)) 29 (nI p_7)) 30 (nI d_8)) 31 (nI q_9)) (uF (uF fv 19 f19_10) 28 f28_11) gv) := hD1.weaken (fun _ _ _ h => hFc _ h)
  refine lv_istore_n (lv' := [(3, .int r_164), (1, .int (nI du_2)), (2, .int (nI mo_3)), (0, .ref h0)]) hx hb dX9_either_34 rfl hl (by decide) rfl (fun ls hl => ?_)
  refine lv_aload_n hx hb dX9_either_35 rfl (lv_at hl 3 rfl) ?_
  have hFc := free_all hD hS hA
  refine va_calli (va_runV (As := []) (rest := []) ⟨hx, hb, hml, hown, hts⟩ (m_peek l D h0 ad cs (upd (upd (upd (upd (upd (upd iv 21 (nI (0))) 22 p22_6) 25 (nI k25_166)) 29 (nI p_7)) 30 (nI d_8)) 31 (nI q_9)) (uF (uF fv 19 f19_10) 28 f28_11) gv k25_166 n26  H.size rfl h26 (by omega) (by omega)) (cwV 0 hts gX9_either_X9_peek rfl rfl rfl (by decide +kernel) ⟨Nat.le_of_ble_eq_true rfl, Nat.le_of_ble_eq_true rfl⟩) ⟨fun a U g mk q => by obtain ⟨q0, q1, qP, qK, qD⟩ := q; exact ⟨q0, q1, qP, va_K.moved (u := U) (U := U.calling g mk a) (Vm.Alike.refl U.vm) qK, qD⟩, va_recv hK hP (ci := 9) (q0 := 0) rfl rfl, fun U hU hW => ⟨rfl, by rw [hU], by rw [hU]; exact hP, va_K.moved hW.alike hK, hD.weaken (fun _ _ _ _ => trivial)⟩⟩ rfl rfl hl.1 rfl (lv_room (Nat.le_of_ble_eq_true rfl)) dX9_either_36 ⟨Nat.le_of_ble_eq_true rfl, Nat.le_of_ble_eq_true rfl⟩) hS (fun q _ h => hFc q h) hFc (fun r_172 u t H1 locs ht hvm w_173 hB hz1 hk1 hS => ?_)
  subst w_173
  obtain ⟨k25_174, q_175, q_176, q_177, q_178, hP1, hK1, hD1⟩ := hB
  replace q_177 : (k25_166 = n26 ∨ ¬ blk ((fv 0) k25_166)) → k25_174 = k25_166 := q_177
  replace q_178 : r_172 = (-1) ∨ ∃ c e : Nat, r_172 = nI c ∧ isE ((fv 0)) n26 k25_174 e ∧ ((c = 0 ∧ e = k25_174 + 4) ∨ (c = 1 ∧ e = k25_174 + 2) ∨ (c = 2 ∧ e = k25_174 + 3) ∨ (c = 3 ∧ e = k25_174 + 3) ∨ (c = 4 ∧ e = k25_174 + 5) ∨ (c = 5 ∧ e = k25_174 + 6) ∨ (c = 6 ∧ e = k25_174 + 4) ∨ (c = 7 ∧ e = k25_174 + 6) ∨ (c = 8 ∧ e = k25_174 + 4) ∨ (c = 9 ∧ e = k25_174 + 3) ∨ (c = 10 ∧ e = k25_174 + 3) ∨ c = 11) := q_178
  rw [ht] at hP1
  have hK := va_K.moved hvm.symm hK1
  generalize H1 = H at hP1 hS ⊢
  have hP : va_P D vwCl (mw h0 ad cs (upd (upd (upd (upd (upd (upd iv 21 (nI (0))) 22 p22_6) 25 (nI k25_174)) 29 (nI p_7)) 30 (nI d_8)) 31 (nI q_9)) (uF (uF fv 19 f19_10) 28 f28_11) gv) H := hP1
  have hD : va_D A (mw h0 ad cs (upd (upd (upd (upd (upd (upd iv 21 (nI (0))) 22 p22_6) 25 (nI k25_174)) 29 (nI p_7)) 30 (nI d_8)) 31 (nI q_9)) (uF (uF fv 19 f19_10) 28 f28_11) gv) := hD1.weaken (fun _ _ _ h => hFc _ h)
  have hid_183 : k25_174 = k25_166 := q_177 q_169
  rcases q_178 with rfl | ⟨c_179, e_180, rfl, he_181, hc_182⟩
  · refine lv_istore (lv' := [(4, .int (-1)), (3, .int r_164), (1, .int (nI du_2)), (2, .int (nI mo_3)), (0, .ref h0)]) hx hb dX9_either_39 hl (by decide) rfl (fun ls hl => ?_)
    refine lv_iload_n hx hb dX9_either_41 rfl (lv_at hl 2 rfl) ?_
    refine lv_if_eq (tgt := 76) hx hb dX9_either_42 (by decide) (fun c_184 => ?_) (fun c_184 => ?_)
    · have d_185 := n_eq (a := du_2) (b := 0) (by omega) (by omega) c_184
      obtain rfl : du_2 = 0 := by omega
      refine lv_iload_n hx hb dX9_either_76 rfl (lv_at hl 2 rfl) ?_
      refine lv_if_eq (tgt := 93) hx hb dX9_either_77 (by decide) (fun c_186 => ?_) (fun c_186 => absurd (by decide) c_186)
      refine lv_iload hx hb dX9_either_93 (lv_at hl 0 rfl) ?_
      refine lv_iconst (v := 2) hx hb dX9_either_95 (by decide) ?_
      refine lv_icmp_eq (tgt := 105) hx hb dX9_either_96 (by decide) (fun c_187 => absurd c_187 (by decide)) (fun c_187 => ?_)
      refine lv_iload hx hb dX9_either_99 (lv_at hl 0 rfl) ?_
      refine lv_iconst (v := 1) hx hb dX9_either_101 (by decide) ?_
      refine lv_icmp_ne (tgt := 145) hx hb dX9_either_102 (by decide) (fun c_188 => ?_) (fun c_188 => absurd c_188 (by decide))
      refine lv_iload_n hx hb dX9_either_145 rfl (lv_at hl 1 rfl) ?_
      refine lv_bipush (v := 41) hx hb dX9_either_146 (by decide) ?_
      refine lv_icmp_ne (tgt := 200) hx hb dX9_either_148 (by decide) (fun c_189 => ?_) (fun c_189 => ?_)
      · refine lv_iconst (v := 0) hx hb dX9_either_200 (by decide) ?_
        refine lv_istore_n (lv' := [(2, .int 0), (4, .int (-1)), (3, .int r_164), (1, .int (nI (0))), (0, .ref h0)]) hx hb dX9_either_201 rfl hl (by decide) rfl (fun ls hl => ?_)
        refine lv_goto (tgt := 19) hx hb dX9_either_202 (by decide) ?_
        exact ih_1 (0, 0, k25_174, 0, p22_6, p_7, d_8, q_9, f19_10, f28_11, x_12, y_13, j_14, k_15) (mw h0 ad cs (upd (upd (upd (upd (upd (upd iv 21 (nI 0)) 22 p22_6) 25 (nI k25_174)) 29 (nI p_7)) 30 (nI d_8)) 31 (nI q_9)) (uF (uF fv 19 f19_10) 28 f28_11) gv) _ _ ls (by show 2 * (n26 - k25_174) + 0 + (1 - 0) < 2 * (n26 - a_4) + mo_3 + (1 - (0)); omega) ⟨rfl, (show 0 ≤ 1 from by omega), (show 0 ≤ 1 from by omega), (show 1 ≤ 0 ∨ 0 = 0 from by omega), (show k25_174 ≤ n26 from by omega), (show 2 * (d_8 + j_14 + x_12) ≤ k25_174 from by omega), (show 0 ≤ 3 from by omega), (show pil f28_11 p_7 x_12 y_13 j_14 k_15 from hp_22), (show q_9 = x_12 + y_13 from by omega), (show x_12 + y_13 ≤ 6 from by omega), (show 1 ≤ 0 ∨ wfs f19_10 (200 * n14) d_8 (j_14 + (1 - 0)) from Or.inr hw_163), (show ∀ i : Nat, i < 200 * n14 → f19_10 i = fv 19 i from hfr_26)⟩ hP hD hS (lv_sub hl [3, 0, 4] rfl)
      have hlt41 : k25_166 < n26 := q_171.elim (fun h9 => absurd (h9.1.symm.trans c_189) (by decide)) (fun h9 => h9.1)
      refine lv_aload_n hx hb dX9_either_151 rfl (lv_at hl 4 rfl) ?_
      refine vp_callSi (W.runV (As := []) (rest := []) ⟨hx, hb, hml, hown, hts⟩ (m_brackets l D h0 ad cs (upd (upd (upd (upd (upd (upd iv 21 (nI (0))) 22 p22_6) 25 (nI k25_174)) 29 (nI p_7)) 30 (nI d_8)) 31 (nI q_9)) (uF (uF fv 19 f19_10) 28 f28_11) gv p_7  rfl (by omega)) (cwV 0 hts gX9_either_X9_brackets rfl rfl rfl (by decide +kernel) ⟨Nat.le_of_ble_eq_true rfl, Nat.le_of_ble_eq_true rfl⟩) ⟨fun a U g mk q => ⟨q.1, q.2.1, va_K.moved (u := U) (U := U.calling g mk a) (Vm.Alike.refl U.vm) q.2.2⟩, va_recv hK hP (ci := 9) (q0 := 0) rfl rfl, fun U hU hW => ⟨rfl, by rw [hU]; exact hP, va_K.moved hW.alike hK⟩⟩ rfl rfl hl.1 rfl (lv_room (Nat.le_of_ble_eq_true rfl)) dX9_either_152 ⟨Nat.le_of_ble_eq_true rfl, Nat.le_of_ble_eq_true rfl⟩) (fun r_190 k_191 => ?_)
      obtain ⟨b_192, rfl, hb_193, hb_194⟩ := k_191
      refine lv_if_le (tgt := 200) hx hb dX9_either_155 (by decide) (fun c_195 => ?_) (fun c_195 => ?_)
      · have d_196 := n_le (a := b_192) (b := 0) (by omega) (by omega) c_195
        refine lv_iconst (v := 0) hx hb dX9_either_200 (by decide) ?_
        refine lv_istore_n (lv' := [(2, .int 0), (4, .int (-1)), (3, .int r_164), (1, .int (nI (0))), (0, .ref h0)]) hx hb dX9_either_201 rfl hl (by decide) rfl (fun ls hl => ?_)
        refine lv_goto (tgt := 19) hx hb dX9_either_202 (by decide) ?_
        exact ih_1 (0, 0, k25_174, 0, p22_6, p_7, d_8, q_9, f19_10, f28_11, x_12, y_13, j_14, k_15) (mw h0 ad cs (upd (upd (upd (upd (upd (upd iv 21 (nI 0)) 22 p22_6) 25 (nI k25_174)) 29 (nI p_7)) 30 (nI d_8)) 31 (nI q_9)) (uF (uF fv 19 f19_10) 28 f28_11) gv) _ _ ls (by show 2 * (n26 - k25_174) + 0 + (1 - 0) < 2 * (n26 - a_4) + mo_3 + (1 - (0)); omega) ⟨rfl, (show 0 ≤ 1 from by omega), (show 0 ≤ 1 from by omega), (show 1 ≤ 0 ∨ 0 = 0 from by omega), (show k25_174 ≤ n26 from by omega), (show 2 * (d_8 + j_14 + x_12) ≤ k25_174 from by omega), (show 0 ≤ 3 from by omega), (show pil f28_11 p_7 x_12 y_13 j_14 k_15 from hp_22), (show q_9 = x_12 + y_13 from by omega), (show x_12 + y_13 ≤ 6 from by omega), (show 1 ≤ 0 ∨ wfs f19_10 (200 * n14) d_8 (j_14 + (1 - 0)) from Or.inr hw_163), (show ∀ i : Nat, i < 200 * n14 → f19_10 i = fv 19 i from hfr_26)⟩ hP hD hS (lv_sub hl [3, 0, 4] rfl)
      have d_197 := n_nle (a := b_192) (b := 0) (by omega) (by omega) c_195
      obtain ⟨i9, hi9, hi8⟩ := hb_194.resolve_left (by omega)
      refine lv_aload_n hx hb dX9_either_158 rfl (lv_at hl 4 rfl) ?_
      refine lv_iconst (v := 1) hx hb dX9_either_159 (by decide) ?_
      have hFc := free_all hD hS hA
      refine va_callv (va_runV (As := [.int 1]) (rest := []) ⟨hx, hb, hml, hown, hts⟩ (m_joins l D h0 ad cs (upd (upd (upd (upd (upd (upd iv 21 (nI (0))) 22 p22_6) 25 (nI k25_174)) 29 (nI p_7)) 30 (nI d_8)) 31 (nI q_9)) (uF (uF fv 19 f19_10) 28 f28_11) gv n14 p_7 d_8 1 x_12 y_13 j_14 k_15 H.size h14 rfl rfl (by omega) (by omega) hp_22 (by omega) (by omega)) (cwV 1 hts gX9_either_X9_joins rfl rfl rfl (by decide +kernel) ⟨Nat.le_of_ble_eq_true rfl, Nat.le_of_ble_eq_true rfl⟩) ⟨fun a U g mk q => by obtain ⟨q0, q1, qP, qK, qD⟩ := q; exact ⟨q0, q1, qP, va_K.moved (u := U) (U := U.calling g mk a) (Vm.Alike.refl U.vm) qK, qD⟩, va_recv hK hP (ci := 9) (q0 := 0) rfl rfl, fun U hU hW => ⟨rfl, by rw [hU], by rw [hU]; exact hP, va_K.moved hW.alike hK, hD.weaken (fun _ _ _ _ => trivial)⟩⟩ rfl rfl hl.1 rfl (lv_room (Nat.le_of_ble_eq_true rfl)) dX9_either_160 ⟨Nat.le_of_ble_eq_true rfl, Nat.le_of_ble_eq_true rfl⟩) hS (fun q _ h => hFc q h) hFc (fun u t H1 locs ht hvm w_199 hB hz1 hk1 hS => ?_)
      obtain ⟨k29_200, k30_201, f19_202, gj2_203, gk2_204, q_205, q_206, q_207, q_208, q_209, q_210, q_211, q_212, hP1, hK1, hD1⟩ := hB
      replace q_205 : pil ((f28_11)) k29_200 x_12 y_13 gj2_203 gk2_204 := q_205
      replace q_209 : ∀ i : Nat, k29_200 ≤ i → i < p_7 → (f28_11) i = 1 ∨ (f28_11) i = 2 := q_209
      replace q_210 : ∀ i : Nat, i < 200 * n14 → f19_202 i = (f19_10) i := q_210
      replace q_211 : wfs ((f19_10)) (200 * n14) d_8 (j_14 + 1) → wfs f19_202 (200 * n14) k30_201 (gj2_203 + 1) := q_211
      rw [ht] at hP1
      have hK := va_K.moved hvm.symm hK1
      generalize H1 = H at hP1 hS ⊢
      have hP : va_P D vwCl (mw h0 ad cs (upd (upd (upd (upd (upd (upd iv 21 (nI (0))) 22 p22_6) 25 (nI k25_174)) 29 (nI k29_200)) 30 (nI k30_201)) 31 (nI q_9)) (uF (uF fv 19 f19_202) 28 f28_11) gv) H := hP1
      have hD : va_D A (mw h0 ad cs (upd (upd (upd (upd (upd (upd iv 21 (nI (0))) 22 p22_6) 25 (nI k25_174)) 29 (nI k29_200)) 30 (nI k30_201)) 31 (nI q_9)) (uF (uF fv 19 f19_202) 28 f28_11) gv) := hD1.weaken (fun _ _ _ h => hFc _ h)
      have hfr_213 : ∀ i : Nat, i < 200 * n14 → f19_202 i = fv 19 i := fun i h9 => (q_210 i h9).trans (hfr_26 i h9)
      have hw_214 := q_211 hw_163
      have hlen2 := q_205.len
      have hk1 : 1 ≤ k29_200 := (Nat.lt_or_ge i9 k29_200).elim (fun q => by omega) (fun q => absurd hi8 (nj12 (q_209 i9 q hi9)))
      obtain rfl : gk2_204 = 0 := by omega
      obtain ⟨hb_215, x_216, y_217, k_218, hxy_219, hx_220, hp_221⟩ := q_205.popB hk1
      refine lv_aload_n hx hb dX9_either_163 rfl (lv_at hl 4 rfl) ?_
      refine lv_dup hx hb dX9_either_164 rfl ?_
      refine va_get (D := D) (ci := 9) (v := .int (nI k29_200)) (C := RX9) (T := TX9) (N := 44) hx hb hts hin9 hown hK hP 0 rfl rfl 29 (by decide) (hts (.fieldLink RX9 99 "HoneyHouseModel" "piled" "I") (List.mem_of_getElem? (i := 1) rfl)) (fun _ h9 => h9) rfl dX9_either_165 ?_
      refine lv_iconst (v := 1) hx hb dX9_either_168 (by decide) ?_
      refine lv_isub hx hb dX9_either_169 ?_
      refine tp_i (y := nI (k29_200 - 1)) (pk_sub (a := k29_200) (b := 1) (by omega)) ?_
      refine va_put (D := D) (ci := 9) (v := .int (nI (k29_200 - 1))) (ty := .int) (C := RX9) (T := TX9) (N := 44) hx hb hts hin9 tyX9 tyX9_ok nmX9 hown hK hP hD hS 0 rfl rfl 29 (by decide) (hts (.fieldLink RX9 99 "HoneyHouseModel" "piled" "I") (List.mem_of_getElem? (i := 1) rfl)) (fun _ h9 => h9) rfl (tyX9_ok 29 (by decide)) rfl rfl (Nat.le_of_ble_eq_true rfl) dX9_either_170 (fun H locs hP hD hS => ?_)
      have hP : va_P D vwCl (mw h0 ad cs (upd (upd (upd (upd (upd (upd iv 21 (nI (0))) 22 p22_6) 25 (nI k25_174)) 29 (nI (k29_200 - 1))) 30 (nI k30_201)) 31 (nI q_9)) (uF (uF fv 19 f19_202) 28 f28_11) gv) H := hP
      have hD : va_D A (mw h0 ad cs (upd (upd (upd (upd (upd (upd iv 21 (nI (0))) 22 p22_6) 25 (nI k25_174)) 29 (nI (k29_200 - 1))) 30 (nI k30_201)) 31 (nI q_9)) (uF (uF fv 19 f19_202) 28 f28_11) gv) := hD
      refine lv_aload_n hx hb dX9_either_173 rfl (lv_at hl 4 rfl) ?_
      refine lv_dup hx hb dX9_either_174 rfl ?_
      refine va_get (D := D) (ci := 9) (v := .int (nI q_9)) (C := RX9) (T := TX9) (N := 44) hx hb hts hin9 hown hK hP 0 rfl rfl 31 (by decide) (hts (.fieldLink RX9 105 "HoneyHouseModel" "deep" "I") (List.mem_of_getElem? (i := 3) rfl)) (fun _ h9 => h9) rfl dX9_either_175 ?_
      refine lv_iconst (v := 1) hx hb dX9_either_178 (by decide) ?_
      refine lv_isub hx hb dX9_either_179 ?_
      refine tp_i (y := nI (q_9 - 1)) (pk_sub (a := q_9) (b := 1) (by omega)) ?_
      refine va_put (D := D) (ci := 9) (v := .int (nI (q_9 - 1))) (ty := .int) (C := RX9) (T := TX9) (N := 44) hx hb hts hin9 tyX9 tyX9_ok nmX9 hown hK hP hD hS 0 rfl rfl 31 (by decide) (hts (.fieldLink RX9 105 "HoneyHouseModel" "deep" "I") (List.mem_of_getElem? (i := 3) rfl)) (fun _ h9 => h9) rfl (tyX9_ok 31 (by decide)) rfl rfl (Nat.le_of_ble_eq_true rfl) dX9_either_180 (fun H locs hP hD hS => ?_)
      have hP : va_P D vwCl (mw h0 ad cs (upd (upd (upd (upd (upd (upd iv 21 (nI (0))) 22 p22_6) 25 (nI k25_174)) 29 (nI (k29_200 - 1))) 30 (nI k30_201)) 31 (nI (q_9 - 1))) (uF (uF fv 19 f19_202) 28 f28_11) gv) H := hP
      have hD : va_D A (mw h0 ad cs (upd (upd (upd (upd (upd (upd iv 21 (nI (0))) 22 p22_6) 25 (nI k25_174)) 29 (nI (k29_200 - 1))) 30 (nI k30_201)) 31 (nI (q_9 - 1))) (uF (uF fv 19 f19_202) 28 f28_11) gv) := hD
      refine lv_aload_n hx hb dX9_either_183 rfl (lv_at hl 4 rfl) ?_
      refine lv_dup hx hb dX9_either_184 rfl ?_
      refine va_get (D := D) (ci := 9) (v := .int (nI k25_174)) (C := RX9) (T := TX9) (N := 44) hx hb hts hin9 hown hK hP 0 rfl rfl 25 (by decide) (hts (.fieldLink RX9 87 "HoneyHouseModel" "at" "I") (List.mem_of_getElem? (i := 6) rfl)) (fun _ h9 => h9) rfl dX9_either_185 ?_
      refine lv_iconst (v := 1) hx hb dX9_either_188 (by decide) ?_
      refine lv_iadd hx hb dX9_either_189 ?_
      refine tp_i (y := nI (k25_174 + 1)) (nI_add k25_174 1) ?_
      refine va_put (D := D) (ci := 9) (v := .int (nI (k25_174 + 1))) (ty := .int) (C := RX9) (T := TX9) (N := 44) hx hb hts hin9 tyX9 tyX9_ok nmX9 hown hK hP hD hS 0 rfl rfl 25 (by decide) (hts (.fieldLink RX9 87 "HoneyHouseModel" "at" "I") (List.mem_of_getElem? (i := 6) rfl)) (fun _ h9 => h9) rfl (tyX9_ok 25 (by decide)) rfl rfl (Nat.le_of_ble_eq_true rfl) dX9_either_190 (fun H locs hP hD hS => ?_)
      have hP : va_P D vwCl (mw h0 ad cs (upd (upd (upd (upd (upd (upd iv 21 (nI (0))) 22 p22_6) 25 (nI (k25_174 + 1))) 29 (nI (k29_200 - 1))) 30 (nI k30_201)) 31 (nI (q_9 - 1))) (uF (uF fv 19 f19_202) 28 f28_11) gv) H := hP
      have hD : va_D A (mw h0 ad cs (upd (upd (upd (upd (upd (upd iv 21 (nI (0))) 22 p22_6) 25 (nI (k25_174 + 1))) 29 (nI (k29_200 - 1))) 30 (nI k30_201)) 31 (nI (q_9 - 1))) (uF (uF fv 19 f19_202) 28 f28_11) gv) := hD
      refine lv_aload_n hx hb dX9_either_193 rfl (lv_at hl 4 rfl) ?_
      have hFc := free_all hD hS hA
      refine va_callv (va_runV (As := []) (rest := []) ⟨hx, hb, hml, hown, hts⟩ (m_nots l D h0 ad cs (upd (upd (upd (upd (upd (upd iv 21 (nI (0))) 22 p22_6) 25 (nI (k25_174 + 1))) 29 (nI (k29_200 - 1))) 30 (nI k30_201)) 31 (nI (q_9 - 1))) (uF (uF fv 19 f19_202) 28 f28_11) gv n14 (k29_200 - 1) k30_201 (q_9 - 1) x_216 y_217 gj2_203 k_218 H.size h14 rfl rfl rfl (by omega) hp_221 (by omega) (by omega) (by omega)) (cwV 0 hts gX9_either_X9_nots rfl rfl rfl (by decide +kernel) ⟨Nat.le_of_ble_eq_true rfl, Nat.le_of_ble_eq_true rfl⟩) ⟨fun a U g mk q => by obtain ⟨q0, q1, qP, qK, qD⟩ := q; exact ⟨q0, q1, qP, va_K.moved (u := U) (U := U.calling g mk a) (Vm.Alike.refl U.vm) qK, qD⟩, va_recv hK hP (ci := 9) (q0 := 0) rfl rfl, fun U hU hW => ⟨rfl, by rw [hU], by rw [hU]; exact hP, va_K.moved hW.alike hK, hD.weaken (fun _ _ _ _ => trivial)⟩⟩ rfl rfl hl.1 rfl (lv_room (Nat.le_of_ble_eq_true rfl)) dX9_either_194 ⟨Nat.le_of_ble_eq_true rfl, Nat.le_of_ble_eq_true rfl⟩) hS (fun q _ h => hFc q h) hFc (fun u t H1 locs ht hvm w_223 hB hz1 hk1 hS => ?_)
      obtain ⟨k29_224, k30_225, k31_226, f19_227, gx2_228, gk2_229, q_230, q_231, q_232, q_233, q_234, q_235, hP1, hK1, hD1⟩ := hB
      replace q_230 : pil ((f28_11)) k29_224 gx2_228 y_217 gj2_203 gk2_229 := q_230
      replace q_234 : ∀ i : Nat, i < 200 * n14 → f19_227 i = (f19_202) i := q_234
      replace q_235 : ∀ n : Nat, 1 ≤ n → wfs ((f19_202)) (200 * n14) k30_201 n → wfs f19_227 (200 * n14) k30_225 n := q_235
      rw [ht] at hP1
      have hK := va_K.moved hvm.symm hK1
      generalize H1 = H at hP1 hS ⊢
      have hP : va_P D vwCl (mw h0 ad cs (upd (upd (upd (upd (upd (upd iv 21 (nI (0))) 22 p22_6) 25 (nI (k25_174 + 1))) 29 (nI k29_224)) 30 (nI k30_225)) 31 (nI k31_226)) (uF (uF fv 19 f19_227) 28 f28_11) gv) H := hP1
      have hD : va_D A (mw h0 ad cs (upd (upd (upd (upd (upd (upd iv 21 (nI (0))) 22 p22_6) 25 (nI (k25_174 + 1))) 29 (nI k29_224)) 30 (nI k30_225)) 31 (nI k31_226)) (uF (uF fv 19 f19_227) 28 f28_11) gv) := hD1.weaken (fun _ _ _ h => hFc _ h)
      have hfr_236 : ∀ i : Nat, i < 200 * n14 → f19_227 i = fv 19 i := fun i h9 => (q_234 i h9).trans (hfr_213 i h9)
      refine lv_goto (tgt := 202) hx hb dX9_either_197 (by decide) ?_
      refine lv_goto (tgt := 19) hx hb dX9_either_202 (by decide) ?_
      exact ih_1 (0, mo_3, k25_174 + 1, 0, p22_6, k29_224, k30_225, k31_226, f19_227, f28_11, gx2_228, y_217, gj2_203, gk2_229) (mw h0 ad cs (upd (upd (upd (upd (upd (upd iv 21 (nI 0)) 22 p22_6) 25 (nI (k25_174 + 1))) 29 (nI k29_224)) 30 (nI k30_225)) 31 (nI k31_226)) (uF (uF fv 19 f19_227) 28 f28_11) gv) _ _ ls (by show 2 * (n26 - (k25_174 + 1)) + mo_3 + (1 - 0) < 2 * (n26 - a_4) + mo_3 + (1 - (0)); omega) ⟨rfl, (show 0 ≤ 1 from by omega), (show mo_3 ≤ 1 from by omega), (show 1 ≤ mo_3 ∨ 0 = 0 from by omega), (show (k25_174 + 1) ≤ n26 from by omega), (show 2 * (k30_225 + gj2_203 + gx2_228) ≤ (k25_174 + 1) from by omega), (show 0 ≤ 3 from by omega), (show pil f28_11 k29_224 gx2_228 y_217 gj2_203 gk2_229 from q_230), (show k31_226 = gx2_228 + y_217 from by omega), (show gx2_228 + y_217 ≤ 6 from by omega), (show 1 ≤ 0 ∨ wfs f19_227 (200 * n14) k30_225 (gj2_203 + (1 - 0)) from Or.inr (q_235 _ (by omega) hw_214)), (show ∀ i : Nat, i < 200 * n14 → f19_227 i = fv 19 i from hfr_236)⟩ hP hD hS (lv_sub hl [2, 3, 4] rfl)
    have d_237 := n_ne (a := du_2) (b := 0) (by omega) (by omega) c_184
    obtain rfl : du_2 = 1 := by omega
    refine lv_iload_n hx hb dX9_either_45 rfl (lv_at hl 1 rfl) ?_
    refine lv_bipush (v := 40) hx hb dX9_either_46 (by decide) ?_
    refine lv_icmp_eq (tgt := 57) hx hb dX9_either_48 (by decide) (fun c_238 => ?_) (fun c_238 => ?_)
    · have hlt40 : k25_166 < n26 := q_171.elim (fun h9 => absurd (h9.1.symm.trans c_238) (by decide)) (fun h9 => h9.1)
      refine lv_aload_n hx hb dX9_either_57 rfl (lv_at hl 4 rfl) ?_
      refine lv_iload_n hx hb dX9_either_58 rfl (lv_at hl 1 rfl) ?_
      refine lv_bipush (v := 40) hx hb dX9_either_59 (by decide) ?_
      refine lv_icmp_ne (tgt := 69) hx hb dX9_either_61 (by decide) (fun c_239 => absurd (c_238) c_239) (fun c_239 => ?_)
      refine lv_bipush (v := 12) hx hb dX9_either_64 (by decide) ?_
      refine lv_goto (tgt := 70) hx hb dX9_either_66 (by decide) ?_
      have hFc := free_all hD hS hA
      refine va_callv (va_runV (As := [.int 12]) (rest := []) ⟨hx, hb, hml, hown, hts⟩ (m_opens l D h0 ad cs (upd (upd (upd (upd (upd (upd iv 21 (nI (0))) 22 p22_6) 25 (nI k25_174)) 29 (nI p_7)) 30 (nI d_8)) 31 (nI q_9)) (uF (uF fv 19 f19_10) 28 f28_11) gv 0 k25_174 n26 p_7 q_9 12 x_12 y_13 j_14 k_15 H.size rfl rfl h26 rfl rfl (by omega) (by omega) (by omega) hp_22 (by omega) (by omega) (Or.inl ⟨rfl, by omega⟩)) (cwV 1 hts gX9_either_X9_opens rfl rfl rfl (by decide +kernel) ⟨Nat.le_of_ble_eq_true rfl, Nat.le_of_ble_eq_true rfl⟩) ⟨fun a U g mk q => by obtain ⟨q0, q1, qP, qK, qD⟩ := q; exact ⟨q0, q1, qP, va_K.moved (u := U) (U := U.calling g mk a) (Vm.Alike.refl U.vm) qK, qD⟩, va_recv hK hP (ci := 9) (q0 := 0) rfl rfl, fun U hU hW => ⟨rfl, by rw [hU], by rw [hU]; exact hP, va_K.moved hW.alike hK, hD.weaken (fun _ _ _ _ => trivial)⟩⟩ rfl rfl hl.1 rfl (lv_room (Nat.le_of_ble_eq_true rfl)) dX9_either_70 ⟨Nat.le_of_ble_eq_true rfl, Nat.le_of_ble_eq_true rfl⟩) hS (fun q _ h => hFc q h) hFc (fun u t H1 locs ht hvm w_241 hB hz1 hk1 hS => ?_)
      obtain ⟨k21_242, p22_243, k25_244, k29_245, k31_246, f28_247, q_248, q_249, hP1, hK1, hD1⟩ := hB
      replace q_249 : (1 ≤ k21_242 ∧ k25_244 = k25_174 ∧ k29_245 = p_7 ∧ k31_246 = q_9 ∧ f28_247 = (f28_11)) ∨ (k21_242 = 0 ∧ k25_174 + 1 ≤ k25_244 ∧ k25_244 ≤ n26 ∧ k31_246 = q_9 + 1 ∧ q_9 ≤ 5 ∧ ∃ x y : Nat, x + y = x_12 + y_13 + 1 ∧ (x = x_12 ∨ (x = x_12 + 1 ∧ k25_174 + 3 ≤ k25_244)) ∧ pil f28_247 k29_245 x y j_14 0) := q_249
      rw [ht] at hP1
      have hK := va_K.moved hvm.symm hK1
      generalize H1 = H at hP1 hS ⊢
      have hP : va_P D vwCl (mw h0 ad cs (upd (upd (upd (upd (upd (upd iv 21 (nI k21_242)) 22 p22_243) 25 (nI k25_244)) 29 (nI k29_245)) 30 (nI d_8)) 31 (nI k31_246)) (uF (uF fv 19 f19_10) 28 f28_247) gv) H := hP1
      have hD : va_D A (mw h0 ad cs (upd (upd (upd (upd (upd (upd iv 21 (nI k21_242)) 22 p22_243) 25 (nI k25_244)) 29 (nI k29_245)) 30 (nI d_8)) 31 (nI k31_246)) (uF (uF fv 19 f19_10) 28 f28_247) gv) := hD1.weaken (fun _ _ _ h => hFc _ h)
      rcases q_249 with ⟨hpos_250, e25_251, e29_252, e31_253, e28_254⟩ | ⟨rfl, h1_255, h2_256, h3_257, h5_258, x_259, y_260, hxy_261, hx3_262, hp_263⟩
      · refine lv_goto (tgt := 202) hx hb dX9_either_73 (by decide) ?_
        refine lv_goto (tgt := 19) hx hb dX9_either_202 (by decide) ?_
        exact ih_1 (1, mo_3, k25_244, k21_242, p22_243, k29_245, d_8, k31_246, f19_10, f28_247, x_12, y_13, j_14, k_15) (mw h0 ad cs (upd (upd (upd (upd (upd (upd iv 21 (nI k21_242)) 22 p22_243) 25 (nI k25_244)) 29 (nI k29_245)) 30 (nI d_8)) 31 (nI k31_246)) (uF (uF fv 19 f19_10) 28 f28_247) gv) _ _ ls (by show 2 * (n26 - k25_244) + mo_3 + (1 - k21_242) < 2 * (n26 - a_4) + mo_3 + (1 - (0)); omega) ⟨rfl, (show 1 ≤ 1 from by omega), (show mo_3 ≤ 1 from by omega), (show 1 ≤ mo_3 ∨ 1 = 0 from by omega), (show k25_244 ≤ n26 from by omega), (show 2 * (d_8 + j_14 + x_12) ≤ k25_244 from by omega), (show k21_242 ≤ 3 from by omega), (show pil f28_247 k29_245 x_12 y_13 j_14 k_15 from (by rw [e28_254, e29_252]; exact hp_22)), (show k31_246 = x_12 + y_13 from by omega), (show x_12 + y_13 ≤ 6 from by omega), (show 1 ≤ k21_242 ∨ wfs f19_10 (200 * n14) d_8 (j_14 + (1 - 1)) from Or.inl (by omega)), (show ∀ i : Nat, i < 200 * n14 → f19_10 i = fv 19 i from hfr_26)⟩ hP hD hS (lv_sub hl [2, 3, 4] rfl)
      refine lv_goto (tgt := 202) hx hb dX9_either_73 (by decide) ?_
      refine lv_goto (tgt := 19) hx hb dX9_either_202 (by decide) ?_
      exact ih_1 (1, mo_3, k25_244, 0, p22_243, k29_245, d_8, k31_246, f19_10, f28_247, x_259, y_260, j_14, 0) (mw h0 ad cs (upd (upd (upd (upd (upd (upd iv 21 (nI 0)) 22 p22_243) 25 (nI k25_244)) 29 (nI k29_245)) 30 (nI d_8)) 31 (nI k31_246)) (uF (uF fv 19 f19_10) 28 f28_247) gv) _ _ ls (by show 2 * (n26 - k25_244) + mo_3 + (1 - 0) < 2 * (n26 - a_4) + mo_3 + (1 - (0)); omega) ⟨rfl, (show 1 ≤ 1 from by omega), (show mo_3 ≤ 1 from by omega), (show 1 ≤ mo_3 ∨ 1 = 0 from by omega), (show k25_244 ≤ n26 from by omega), (show 2 * (d_8 + j_14 + x_259) ≤ k25_244 from by omega), (show 0 ≤ 3 from by omega), (show pil f28_247 k29_245 x_259 y_260 j_14 0 from hp_263), (show k31_246 = x_259 + y_260 from by omega), (show x_259 + y_260 ≤ 6 from by omega), (show 1 ≤ 0 ∨ wfs f19_10 (200 * n14) d_8 (j_14 + (1 - 1)) from Or.inr hw_163), (show ∀ i : Nat, i < 200 * n14 → f19_10 i = fv 19 i from hfr_26)⟩ hP hD hS (lv_sub hl [2, 3, 4] rfl)
    refine lv_iload hx hb dX9_either_51 (lv_at hl 0 rfl) ?_
    refine lv_iconst (v := 3) hx hb dX9_either_53 (by decide) ?_
    refine lv_icmp_ne (tgt := 76) hx hb dX9_either_54 (by decide) (fun c_264 => ?_) (fun c_264 => absurd c_264 (by decide))
    refine lv_iload_n hx hb dX9_either_76 rfl (lv_at hl 2 rfl) ?_
    refine lv_if_eq (tgt := 93) hx hb dX9_either_77 (by decide) (fun c_265 => absurd c_265 (by decide)) (fun c_265 => ?_)
    refine lv_aload_n hx hb dX9_either_80 rfl (lv_at hl 4 rfl) ?_
    have hFc := free_all hD hS hA
    refine va_callv (va_runV (As := []) (rest := []) ⟨hx, hb, hml, hown, hts⟩ (m_test_ l D h0 ad cs (upd (upd (upd (upd (upd (upd iv 21 (nI (0))) 22 p22_6) 25 (nI k25_174)) 29 (nI p_7)) 30 (nI d_8)) 31 (nI q_9)) (uF (uF fv 19 f19_10) 28 f28_11) gv n14 0 k25_174 n26 d_8  H.size h14 rfl rfl h26 rfl (by omega) (by omega) (by omega) (by omega) (by omega)) (cwV 0 hts gX9_either_X9_test_ rfl rfl rfl (by decide +kernel) ⟨Nat.le_of_ble_eq_true rfl, Nat.le_of_ble_eq_true rfl⟩) ⟨fun a U g mk q => by obtain ⟨q0, q1, qP, qK, qD⟩ := q; exact ⟨q0, q1, qP, va_K.moved (u := U) (U := U.calling g mk a) (Vm.Alike.refl U.vm) qK, qD⟩, va_recv hK hP (ci := 9) (q0 := 0) rfl rfl, fun U hU hW => ⟨rfl, by rw [hU], by rw [hU]; exact hP, va_K.moved hW.alike hK, hD.weaken (fun _ _ _ _ => trivial)⟩⟩ rfl rfl hl.1 rfl (lv_room (Nat.le_of_ble_eq_true rfl)) dX9_either_81 ⟨Nat.le_of_ble_eq_true rfl, Nat.le_of_ble_eq_true rfl⟩) hS (fun q _ h => hFc q h) hFc (fun u t H1 locs ht hvm w_267 hB hz1 hk1 hS => ?_)
    obtain ⟨k21_268, p22_269, k25_270, k30_271, f19_272, q_273, q_274, q_275, q_276, hP1, hK1, hD1⟩ := hB
    replace q_276 : (1 ≤ k21_268 ∧ k30_271 = d_8 ∧ f19_272 = (f19_10)) ∨ (k21_268 = 0 ∧ k30_271 = d_8 + 4 ∧ k25_174 + 8 ≤ k25_270 ∧ (∀ i : Nat, i < 200 * n14 + d_8 → f19_272 i = (f19_10) i) ∧ f19_272 (200 * n14 + d_8) = 13 ∧ okT (f19_272 (200 * n14 + (d_8 + 1)))) := q_276
    rw [ht] at hP1
    have hK := va_K.moved hvm.symm hK1
    generalize H1 = H at hP1 hS ⊢
    have hP : va_P D vwCl (mw h0 ad cs (upd (upd (upd (upd (upd (upd iv 21 (nI k21_268)) 22 p22_269) 25 (nI k25_270)) 29 (nI p_7)) 30 (nI k30_271)) 31 (nI q_9)) (uF (uF fv 19 f19_272) 28 f28_11) gv) H := hP1
    have hD : va_D A (mw h0 ad cs (upd (upd (upd (upd (upd (upd iv 21 (nI k21_268)) 22 p22_269) 25 (nI k25_270)) 29 (nI p_7)) 30 (nI k30_271)) 31 (nI q_9)) (uF (uF fv 19 f19_272) 28 f28_11) gv) := hD1.weaken (fun _ _ _ h => hFc _ h)
    rcases q_276 with ⟨hpos_277, e30_278, e19_279⟩ | ⟨rfl, e30_278, h8_280, hfr_281, h13_282, hok_283⟩
    · have hfr_284 : ∀ i : Nat, i < 200 * n14 → f19_272 i = fv 19 i := fun i h9 => by rw [e19_279]; exact hfr_26 i h9
      refine lv_aload_n hx hb dX9_either_84 rfl (lv_at hl 4 rfl) ?_
      have hFc := free_all hD hS hA
      refine va_callv (va_runV (As := []) (rest := []) ⟨hx, hb, hml, hown, hts⟩ (m_nots l D h0 ad cs (upd (upd (upd (upd (upd (upd iv 21 (nI k21_268)) 22 p22_269) 25 (nI k25_270)) 29 (nI p_7)) 30 (nI k30_271)) 31 (nI q_9)) (uF (uF fv 19 f19_272) 28 f28_11) gv n14 p_7 k30_271 q_9 x_12 y_13 j_14 k_15 H.size h14 rfl rfl rfl (by omega) hp_22 (by omega) (by omega) (by omega)) (cwV 0 hts gX9_either_X9_nots rfl rfl rfl (by decide +kernel) ⟨Nat.le_of_ble_eq_true rfl, Nat.le_of_ble_eq_true rfl⟩) ⟨fun a U g mk q => by obtain ⟨q0, q1, qP, qK, qD⟩ := q; exact ⟨q0, q1, qP, va_K.moved (u := U) (U := U.calling g mk a) (Vm.Alike.refl U.vm) qK, qD⟩, va_recv hK hP (ci := 9) (q0 := 0) rfl rfl, fun U hU hW => ⟨rfl, by rw [hU], by rw [hU]; exact hP, va_K.moved hW.alike hK, hD.weaken (fun _ _ _ _ => trivial)⟩⟩ rfl rfl hl.1 rfl (lv_room (Nat.le_of_ble_eq_true rfl)) dX9_either_85 ⟨Nat.le_of_ble_eq_true rfl, Nat.le_of_ble_eq_true rfl⟩) hS (fun q _ h => hFc q h) hFc (fun u t H1 locs ht hvm w_286 hB hz1 hk1 hS => ?_)
      obtain ⟨k29_287, k30_288, k31_289, f19_290, gx2_291, gk2_292, q_293, q_294, q_295, q_296, q_297, q_298, hP1, hK1, hD1⟩ := hB
      replace q_293 : pil ((f28_11)) k29_287 gx2_291 y_13 j_14 gk2_292 := q_293
      replace q_297 : ∀ i : Nat, i < 200 * n14 → f19_290 i = (f19_272) i := q_297
      replace q_298 : ∀ n : Nat, 1 ≤ n → wfs ((f19_272)) (200 * n14) k30_271 n → wfs f19_290 (200 * n14) k30_288 n := q_298
      rw [ht] at hP1
      have hK := va_K.moved hvm.symm hK1
      generalize H1 = H at hP1 hS ⊢
      have hP : va_P D vwCl (mw h0 ad cs (upd (upd (upd (upd (upd (upd iv 21 (nI k21_268)) 22 p22_269) 25 (nI k25_270)) 29 (nI k29_287)) 30 (nI k30_288)) 31 (nI k31_289)) (uF (uF fv 19 f19_290) 28 f28_11) gv) H := hP1
      have hD : va_D A (mw h0 ad cs (upd (upd (upd (upd (upd (upd iv 21 (nI k21_268)) 22 p22_269) 25 (nI k25_270)) 29 (nI k29_287)) 30 (nI k30_288)) 31 (nI k31_289)) (uF (uF fv 19 f19_290) 28 f28_11) gv) := hD1.weaken (fun _ _ _ h => hFc _ h)
      have hfr_299 : ∀ i : Nat, i < 200 * n14 → f19_290 i = fv 19 i := fun i h9 => (q_297 i h9).trans (hfr_284 i h9)
      refine lv_iconst (v := 0) hx hb dX9_either_88 (by decide) ?_
      refine lv_istore_n (lv' := [(1, .int 0), (4, .int (-1)), (3, .int r_164), (2, .int (nI mo_3)), (0, .ref h0)]) hx hb dX9_either_89 rfl hl (by decide) rfl (fun ls hl => ?_)
      refine lv_goto (tgt := 202) hx hb dX9_either_90 (by decide) ?_
      refine lv_goto (tgt := 19) hx hb dX9_either_202 (by decide) ?_
      exact ih_1 (0, mo_3, k25_270, k21_268, p22_269, k29_287, k30_288, k31_289, f19_290, f28_11, gx2_291, y_13, j_14, gk2_292) (mw h0 ad cs (upd (upd (upd (upd (upd (upd iv 21 (nI k21_268)) 22 p22_269) 25 (nI k25_270)) 29 (nI k29_287)) 30 (nI k30_288)) 31 (nI k31_289)) (uF (uF fv 19 f19_290) 28 f28_11) gv) _ _ ls (by show 2 * (n26 - k25_270) + mo_3 + (1 - k21_268) < 2 * (n26 - a_4) + mo_3 + (1 - (0)); omega) ⟨rfl, (show 0 ≤ 1 from by omega), (show mo_3 ≤ 1 from by omega), (show 1 ≤ mo_3 ∨ 0 = 0 from by omega), (show k25_270 ≤ n26 from by omega), (show 2 * (k30_288 + j_14 + gx2_291) ≤ k25_270 from by omega), (show k21_268 ≤ 3 from by omega), (show pil f28_11 k29_287 gx2_291 y_13 j_14 gk2_292 from q_293), (show k31_289 = gx2_291 + y_13 from by omega), (show gx2_291 + y_13 ≤ 6 from by omega), (show 1 ≤ k21_268 ∨ wfs f19_290 (200 * n14) k30_288 (j_14 + (1 - 0)) from Or.inl (by omega)), (show ∀ i : Nat, i < 200 * n14 → f19_290 i = fv 19 i from hfr_299)⟩ hP hD hS (lv_sub hl [0, 3, 4] rfl)
    have hw_300 : wfs f19_272 (200 * n14) k30_271 (j_14 + 1) := by rw [e30_278]; exact (hw_163).tei hfr_281 h13_282 hok_283
    have hfr_301 : ∀ i : Nat, i < 200 * n14 → f19_272 i = fv 19 i := fun i h9 => (hfr_281 i (by omega)).trans (hfr_26 i h9)
    refine lv_aload_n hx hb dX9_either_84 rfl (lv_at hl 4 rfl) ?_
    have hFc := free_all hD hS hA
    refine va_callv (va_runV (As := []) (rest := []) ⟨hx, hb, hml, hown, hts⟩ (m_nots l D h0 ad cs (upd (upd (upd (upd (upd (upd iv 21 (nI 0)) 22 p22_269) 25 (nI k25_270)) 29 (nI p_7)) 30 (nI k30_271)) 31 (nI q_9)) (uF (uF fv 19 f19_272) 28 f28_11) gv n14 p_7 k30_271 q_9 x_12 y_13 j_14 k_15 H.size h14 rfl rfl rfl (by omega) hp_22 (by omega) (by omega) (by omega)) (cwV 0 hts gX9_either_X9_nots rfl rfl rfl (by decide +kernel) ⟨Nat.le_of_ble_eq_true rfl, Nat.le_of_ble_eq_true rfl⟩) ⟨fun a U g mk q => by obtain ⟨q0, q1, qP, qK, qD⟩ := q; exact ⟨q0, q1, qP, va_K.moved (u := U) (U := U.calling g mk a) (Vm.Alike.refl U.vm) qK, qD⟩, va_recv hK hP (ci := 9) (q0 := 0) rfl rfl, fun U hU hW => ⟨rfl, by rw [hU], by rw [hU]; exact hP, va_K.moved hW.alike hK, hD.weaken (fun _ _ _ _ => trivial)⟩⟩ rfl rfl hl.1 rfl (lv_room (Nat.le_of_ble_eq_true rfl)) dX9_either_85 ⟨Nat.le_of_ble_eq_true rfl, Nat.le_of_ble_eq_true rfl⟩) hS (fun q _ h => hFc q h) hFc (fun u t H1 locs ht hvm w_303 hB hz1 hk1 hS => ?_)
    obtain ⟨k29_304, k30_305, k31_306, f19_307, gx2_308, gk2_309, q_310, q_311, q_312, q_313, q_314, q_315, hP1, hK1, hD1⟩ := hB
    replace q_310 : pil ((f28_11)) k29_304 gx2_308 y_13 j_14 gk2_309 := q_310
    replace q_314 : ∀ i : Nat, i < 200 * n14 → f19_307 i = (f19_272) i := q_314
    replace q_315 : ∀ n : Nat, 1 ≤ n → wfs ((f19_272)) (200 * n14) k30_271 n → wfs f19_307 (200 * n14) k30_305 n := q_315
    rw [ht] at hP1
    have hK := va_K.moved hvm.symm hK1
    generalize H1 = H at hP1 hS ⊢
    have hP : va_P D vwCl (mw h0 ad cs (upd (upd (upd (upd (upd (upd iv 21 (nI 0)) 22 p22_269) 25 (nI k25_270)) 29 (nI k29_304)) 30 (nI k30_305)) 31 (nI k31_306)) (uF (uF fv 19 f19_307) 28 f28_11) gv) H := hP1
    have hD : va_D A (mw h0 ad cs (upd (upd (upd (upd (upd (upd iv 21 (nI 0)) 22 p22_269) 25 (nI k25_270)) 29 (nI k29_304)) 30 (nI k30_305)) 31 (nI k31_306)) (uF (uF fv 19 f19_307) 28 f28_11) gv) := hD1.weaken (fun _ _ _ h => hFc _ h)
    have hfr_316 : ∀ i : Nat, i < 200 * n14 → f19_307 i = fv 19 i := fun i h9 => (q_314 i h9).trans (hfr_301 i h9)
    refine lv_iconst (v := 0) hx hb dX9_either_88 (by decide) ?_
    refine lv_istore_n (lv' := [(1, .int 0), (4, .int (-1)), (3, .int r_164), (2, .int (nI mo_3)), (0, .ref h0)]) hx hb dX9_either_89 rfl hl (by decide) rfl (fun ls hl => ?_)
    refine lv_goto (tgt := 202) hx hb dX9_either_90 (by decide) ?_
    refine lv_goto (tgt := 19) hx hb dX9_either_202 (by decide) ?_
    exact ih_1 (0, mo_3, k25_270, 0, p22_269, k29_304, k30_305, k31_306, f19_307, f28_11, gx2_308, y_13, j_14, gk2_309) (mw h0 ad cs (upd (upd (upd (upd (upd (upd iv 21 (nI 0)) 22 p22_269) 25 (nI k25_270)) 29 (nI k29_304)) 30 (nI k30_305)) 31 (nI k31_306)) (uF (uF fv 19 f19_307) 28 f28_11) gv) _ _ ls (by show 2 * (n26 - k25_270) + mo_3 + (1 - 0) < 2 * (n26 - a_4) + mo_3 + (1 - (0)); omega) ⟨rfl, (show 0 ≤ 1 from by omega), (show mo_3 ≤ 1 from by omega), (show 1 ≤ mo_3 ∨ 0 = 0 from by omega), (show k25_270 ≤ n26 from by omega), (show 2 * (k30_305 + j_14 + gx2_308) ≤ k25_270 from by omega), (show 0 ≤ 3 from by omega), (show pil f28_11 k29_304 gx2_308 y_13 j_14 gk2_309 from q_310), (show k31_306 = gx2_308 + y_13 from by omega), (show gx2_308 + y_13 ≤ 6 from by omega), (show 1 ≤ 0 ∨ wfs f19_307 (200 * n14) k30_305 (j_14 + (1 - 0)) from Or.inr (q_315 _ (by omega) hw_300)), (show ∀ i : Nat, i < 200 * n14 → f19_307 i = fv 19 i from hfr_316)⟩ hP hD hS (lv_sub hl [0, 3, 4] rfl)
  have he_181b : k25_174 ≤ e_180 ∧ e_180 ≤ n26 := ⟨he_181.1, he_181.2.1⟩
  refine lv_istore (lv' := [(4, .int (nI c_179)), (3, .int r_164), (1, .int (nI du_2)), (2, .int (nI mo_3)), (0, .ref h0)]) hx hb dX9_either_39 hl (by decide) rfl (fun ls hl => ?_)
  refine lv_iload_n hx hb dX9_either_41 rfl (lv_at hl 2 rfl) ?_
  refine lv_if_eq (tgt := 76) hx hb dX9_either_42 (by decide) (fun c_317 => ?_) (fun c_317 => ?_)
  · have d_318 := n_eq (a := du_2) (b := 0) (by omega) (by omega) c_317
    obtain rfl : du_2 = 0 := by omega
    refine lv_iload_n hx hb dX9_either_76 rfl (lv_at hl 2 rfl) ?_
    refine lv_if_eq (tgt := 93) hx hb dX9_either_77 (by decide) (fun c_319 => ?_) (fun c_319 => absurd (by decide) c_319)
    refine lv_iload hx hb dX9_either_93 (lv_at hl 0 rfl) ?_
    refine lv_iconst (v := 2) hx hb dX9_either_95 (by decide) ?_
    refine lv_icmp_eq (tgt := 105) hx hb dX9_either_96 (by decide) (fun c_320 => ?_) (fun c_320 => ?_)
    · have d_321 := n_eq (a := c_179) (b := 2) (by omega) (by omega) c_320
      obtain rfl : c_179 = 2 := by omega
      refine lv_aload_n hx hb dX9_either_105 rfl (lv_at hl 4 rfl) ?_
      refine lv_iload hx hb dX9_either_106 (lv_at hl 0 rfl) ?_
      have hFc := free_all hD hS hA
      refine va_callv (va_runV (As := [.int (nI (2))]) (rest := []) ⟨hx, hb, hml, hown, hts⟩ (m_joins l D h0 ad cs (upd (upd (upd (upd (upd (upd iv 21 (nI (0))) 22 p22_6) 25 (nI k25_174)) 29 (nI p_7)) 30 (nI d_8)) 31 (nI q_9)) (uF (uF fv 19 f19_10) 28 f28_11) gv n14 p_7 d_8 2 x_12 y_13 j_14 k_15 H.size h14 rfl rfl (by omega) (by omega) hp_22 (by omega) (by omega)) (cwV 1 hts gX9_either_X9_joins rfl rfl rfl (by decide +kernel) ⟨Nat.le_of_ble_eq_true rfl, Nat.le_of_ble_eq_true rfl⟩) ⟨fun a U g mk q => by obtain ⟨q0, q1, qP, qK, qD⟩ := q; exact ⟨q0, q1, qP, va_K.moved (u := U) (U := U.calling g mk a) (Vm.Alike.refl U.vm) qK, qD⟩, va_recv hK hP (ci := 9) (q0 := 0) rfl rfl, fun U hU hW => ⟨rfl, by rw [hU], by rw [hU]; exact hP, va_K.moved hW.alike hK, hD.weaken (fun _ _ _ _ => trivial)⟩⟩ rfl rfl hl.1 rfl (lv_room (Nat.le_of_ble_eq_true rfl)) dX9_either_108 ⟨Nat.le_of_ble_eq_true rfl, Nat.le_of_ble_eq_true rfl⟩) hS (fun q _ h => hFc q h) hFc (fun u t H1 locs ht hvm w_323 hB hz1 hk1 hS => ?_)
      obtain ⟨k29_324, k30_325, f19_326, gj2_327, gk2_328, q_329, q_330, q_331, q_332, q_333, q_334, q_335, q_336, hP1, hK1, hD1⟩ := hB
      replace q_329 : pil ((f28_11)) k29_324 x_12 y_13 gj2_327 gk2_328 := q_329
      replace q_333 : ∀ i : Nat, k29_324 ≤ i → i < p_7 → (f28_11) i = 1 ∨ (f28_11) i = 2 := q_333
      replace q_334 : ∀ i : Nat, i < 200 * n14 → f19_326 i = (f19_10) i := q_334
      replace q_335 : wfs ((f19_10)) (200 * n14) d_8 (j_14 + 1) → wfs f19_326 (200 * n14) k30_325 (gj2_327 + 1) := q_335
      rw [ht] at hP1
      have hK := va_K.moved hvm.symm hK1
      generalize H1 = H at hP1 hS ⊢
      have hP : va_P D vwCl (mw h0 ad cs (upd (upd (upd (upd (upd (upd iv 21 (nI (0))) 22 p22_6) 25 (nI k25_174)) 29 (nI k29_324)) 30 (nI k30_325)) 31 (nI q_9)) (uF (uF fv 19 f19_326) 28 f28_11) gv) H := hP1
      have hD : va_D A (mw h0 ad cs (upd (upd (upd (upd (upd (upd iv 21 (nI (0))) 22 p22_6) 25 (nI k25_174)) 29 (nI k29_324)) 30 (nI k30_325)) 31 (nI q_9)) (uF (uF fv 19 f19_326) 28 f28_11) gv) := hD1.weaken (fun _ _ _ h => hFc _ h)
      have hfr_337 : ∀ i : Nat, i < 200 * n14 → f19_326 i = fv 19 i := fun i h9 => (q_334 i h9).trans (hfr_26 i h9)
      have hw_338 := q_335 hw_163
      have hlen2 := q_329.len
      refine lv_aload_n hx hb dX9_either_111 rfl (lv_at hl 4 rfl) ?_
      refine va_get (D := D) (ci := 9) (v := .ref (ad 28)) (C := RX9) (T := TX9) (N := 44) hx hb hts hin9 hown hK hP 0 rfl rfl 28 (by decide) (hts (.fieldLink RX9 96 "HoneyHouseModel" "pile" "[I") (List.mem_of_getElem? (i := 5) rfl)) (fun _ h9 => h9) rfl dX9_either_112 ?_
      refine lv_aload_n hx hb dX9_either_115 rfl (lv_at hl 4 rfl) ?_
      refine va_get (D := D) (ci := 9) (v := .int (nI k29_324)) (C := RX9) (T := TX9) (N := 44) hx hb hts hin9 hown hK hP 0 rfl rfl 29 (by decide) (hts (.fieldLink RX9 99 "HoneyHouseModel" "piled" "I") (List.mem_of_getElem? (i := 1) rfl)) (fun _ h9 => h9) rfl dX9_either_116 ?_
      refine lv_iload hx hb dX9_either_119 (lv_at hl 0 rfl) ?_
      refine va_iast (f := f28_11) (n := 32) hx hb hK hP hD hS 19 18 rfl rfl (vp_in_nI (n := k29_324) (by omega) (by omega)) dX9_either_121 (fun H locs hP hD hS => ?_)
      have hP : va_P D vwCl (mw h0 ad cs (upd (upd (upd (upd (upd (upd iv 21 (nI (0))) 22 p22_6) 25 (nI k25_174)) 29 (nI k29_324)) 30 (nI k30_325)) 31 (nI q_9)) (uF (uF fv 19 f19_326) 28 (upd f28_11 (nI k29_324).toNatClampNeg (nI (2)))) gv) H := hP
      have hD : va_D A (mw h0 ad cs (upd (upd (upd (upd (upd (upd iv 21 (nI (0))) 22 p22_6) 25 (nI k25_174)) 29 (nI k29_324)) 30 (nI k30_325)) 31 (nI q_9)) (uF (uF fv 19 f19_326) 28 (upd f28_11 (nI k29_324).toNatClampNeg (nI (2)))) gv) := hD
      obtain ⟨f_339, hf_340⟩ : ∃ g9, g9 = upd f28_11 (nI k29_324).toNatClampNeg (nI (2)) := ⟨_, rfl⟩
      rw [← hf_340] at hP hD
      rw [nI_clamp (n := k29_324) (by omega)] at hf_340
      have hp_341 : pil f_339 (k29_324 + 1) x_12 y_13 (gj2_327 + 1) 2 := by rw [hf_340]; exact (q_329.up _).an (by omega) up_eq
      refine lv_aload_n hx hb dX9_either_122 rfl (lv_at hl 4 rfl) ?_
      refine lv_dup hx hb dX9_either_123 rfl ?_
      refine va_get (D := D) (ci := 9) (v := .int (nI k29_324)) (C := RX9) (T := TX9) (N := 44) hx hb hts hin9 hown hK hP 0 rfl rfl 29 (by decide) (hts (.fieldLink RX9 99 "HoneyHouseModel" "piled" "I") (List.mem_of_getElem? (i := 1) rfl)) (fun _ h9 => h9) rfl dX9_either_124 ?_
      refine lv_iconst (v := 1) hx hb dX9_either_127 (by decide) ?_
      refine lv_iadd hx hb dX9_either_128 ?_
      refine tp_i (y := nI (k29_324 + 1)) (nI_add k29_324 1) ?_
      refine va_put (D := D) (ci := 9) (v := .int (nI (k29_324 + 1))) (ty := .int) (C := RX9) (T := TX9) (N := 44) hx hb hts hin9 tyX9 tyX9_ok nmX9 hown hK hP hD hS 0 rfl rfl 29 (by decide) (hts (.fieldLink RX9 99 "HoneyHouseModel" "piled" "I") (List.mem_of_getElem? (i := 1) rfl)) (fun _ h9 => h9) rfl (tyX9_ok 29 (by decide)) rfl rfl (Nat.le_of_ble_eq_true rfl) dX9_either_129 (fun H locs hP hD hS => ?_)
      have hP : va_P D vwCl (mw h0 ad cs (upd (upd (upd (upd (upd (upd iv 21 (nI (0))) 22 p22_6) 25 (nI k25_174)) 29 (nI (k29_324 + 1))) 30 (nI k30_325)) 31 (nI q_9)) (uF (uF fv 19 f19_326) 28 f_339) gv) H := hP
      have hD : va_D A (mw h0 ad cs (upd (upd (upd (upd (upd (upd iv 21 (nI (0))) 22 p22_6) 25 (nI k25_174)) 29 (nI (k29_324 + 1))) 30 (nI k30_325)) 31 (nI q_9)) (uF (uF fv 19 f19_326) 28 f_339) gv) := hD
      refine lv_aload_n hx hb dX9_either_132 rfl (lv_at hl 4 rfl) ?_
      refine lv_aload_n hx hb dX9_either_133 rfl (lv_at hl 4 rfl) ?_
      refine vp_callSi (W.runV (As := []) (rest := [.ref h0]) ⟨hx, hb, hml, hown, hts⟩ (m_wordEnd l D h0 ad cs (upd (upd (upd (upd (upd (upd iv 21 (nI (0))) 22 p22_6) 25 (nI k25_174)) 29 (nI (k29_324 + 1))) 30 (nI k30_325)) 31 (nI q_9)) (uF (uF fv 19 f19_326) 28 f_339) gv k25_174 n26  rfl h26 (by omega) (by omega)) (cwV 0 hts gX9_either_X9_wordEnd rfl rfl rfl (by decide +kernel) ⟨Nat.le_of_ble_eq_true rfl, Nat.le_of_ble_eq_true rfl⟩) ⟨fun a U g mk q => ⟨q.1, q.2.1, va_K.moved (u := U) (U := U.calling g mk a) (Vm.Alike.refl U.vm) q.2.2⟩, va_recv hK hP (ci := 9) (q0 := 0) rfl rfl, fun U hU hW => ⟨rfl, by rw [hU]; exact hP, va_K.moved hW.alike hK⟩⟩ rfl rfl hl.1 rfl (lv_room (Nat.le_of_ble_eq_true rfl)) dX9_either_134 ⟨Nat.le_of_ble_eq_true rfl, Nat.le_of_ble_eq_true rfl⟩) (fun r_342 k_343 => ?_)
      obtain ⟨e_344, rfl, he_345⟩ := k_343
      have hq_e_344 : e_344 = e_180 := he_345.uq he_181
      refine va_put (D := D) (ci := 9) (v := .int (nI e_344)) (ty := .int) (C := RX9) (T := TX9) (N := 44) hx hb hts hin9 tyX9 tyX9_ok nmX9 hown hK hP hD hS 0 rfl rfl 25 (by decide) (hts (.fieldLink RX9 87 "HoneyHouseModel" "at" "I") (List.mem_of_getElem? (i := 6) rfl)) (fun _ h9 => h9) rfl (tyX9_ok 25 (by decide)) rfl rfl (Nat.le_of_ble_eq_true rfl) dX9_either_137 (fun H locs hP hD hS => ?_)
      have hP : va_P D vwCl (mw h0 ad cs (upd (upd (upd (upd (upd (upd iv 21 (nI (0))) 22 p22_6) 25 (nI e_344)) 29 (nI (k29_324 + 1))) 30 (nI k30_325)) 31 (nI q_9)) (uF (uF fv 19 f19_326) 28 f_339) gv) H := hP
      have hD : va_D A (mw h0 ad cs (upd (upd (upd (upd (upd (upd iv 21 (nI (0))) 22 p22_6) 25 (nI e_344)) 29 (nI (k29_324 + 1))) 30 (nI k30_325)) 31 (nI q_9)) (uF (uF fv 19 f19_326) 28 f_339) gv) := hD
      refine lv_iconst (v := 1) hx hb dX9_either_140 (by decide) ?_
      refine lv_istore_n (lv' := [(1, .int 1), (4, .int (nI (2))), (3, .int r_164), (2, .int (nI mo_3)), (0, .ref h0)]) hx hb dX9_either_141 rfl hl (by decide) rfl (fun ls hl => ?_)
      refine lv_goto (tgt := 202) hx hb dX9_either_142 (by decide) ?_
      refine lv_goto (tgt := 19) hx hb dX9_either_202 (by decide) ?_
      exact ih_1 (1, mo_3, e_344, 0, p22_6, k29_324 + 1, k30_325, q_9, f19_326, f_339, x_12, y_13, gj2_327 + 1, 2) (mw h0 ad cs (upd (upd (upd (upd (upd (upd iv 21 (nI 0)) 22 p22_6) 25 (nI e_344)) 29 (nI (k29_324 + 1))) 30 (nI k30_325)) 31 (nI q_9)) (uF (uF fv 19 f19_326) 28 f_339) gv) _ _ ls (by show 2 * (n26 - e_344) + mo_3 + (1 - 0) < 2 * (n26 - a_4) + mo_3 + (1 - (0)); omega) ⟨rfl, (show 1 ≤ 1 from by omega), (show mo_3 ≤ 1 from by omega), (show 1 ≤ mo_3 ∨ 1 = 0 from by omega), (show e_344 ≤ n26 from by omega), (show 2 * (k30_325 + (gj2_327 + 1) + x_12) ≤ e_344 from by omega), (show 0 ≤ 3 from by omega), (show pil f_339 (k29_324 + 1) x_12 y_13 (gj2_327 + 1) 2 from hp_341), (show q_9 = x_12 + y_13 from by omega), (show x_12 + y_13 ≤ 6 from by omega), (show 1 ≤ 0 ∨ wfs f19_326 (200 * n14) k30_325 ((gj2_327 + 1) + (1 - 1)) from Or.inr hw_338), (show ∀ i : Nat, i < 200 * n14 → f19_326 i = fv 19 i from hfr_337)⟩ hP hD hS (lv_sub hl [0, 3, 4] rfl)
    have d_346 := n_ne (a := c_179) (b := 2) (by omega) (by omega) c_320
    refine lv_iload hx hb dX9_either_99 (lv_at hl 0 rfl) ?_
    refine lv_iconst (v := 1) hx hb dX9_either_101 (by decide) ?_
    refine lv_icmp_ne (tgt := 145) hx hb dX9_either_102 (by decide) (fun c_347 => ?_) (fun c_347 => ?_)
    · have d_348 := n_ne (a := c_179) (b := 1) (by omega) (by omega) c_347
      refine lv_iload_n hx hb dX9_either_145 rfl (lv_at hl 1 rfl) ?_
      refine lv_bipush (v := 41) hx hb dX9_either_146 (by decide) ?_
      refine lv_icmp_ne (tgt := 200) hx hb dX9_either_148 (by decide) (fun c_349 => ?_) (fun c_349 => ?_)
      · refine lv_iconst (v := 0) hx hb dX9_either_200 (by decide) ?_
        refine lv_istore_n (lv' := [(2, .int 0), (4, .int (nI c_179)), (3, .int r_164), (1, .int (nI (0))), (0, .ref h0)]) hx hb dX9_either_201 rfl hl (by decide) rfl (fun ls hl => ?_)
        refine lv_goto (tgt := 19) hx hb dX9_either_202 (by decide) ?_
        exact ih_1 (0, 0, k25_174, 0, p22_6, p_7, d_8, q_9, f19_10, f28_11, x_12, y_13, j_14, k_15) (mw h0 ad cs (upd (upd (upd (upd (upd (upd iv 21 (nI 0)) 22 p22_6) 25 (nI k25_174)) 29 (nI p_7)) 30 (nI d_8)) 31 (nI q_9)) (uF (uF fv 19 f19_10) 28 f28_11) gv) _ _ ls (by show 2 * (n26 - k25_174) + 0 + (1 - 0) < 2 * (n26 - a_4) + mo_3 + (1 - (0)); omega) ⟨rfl, (show 0 ≤ 1 from by omega), (show 0 ≤ 1 from by omega), (show 1 ≤ 0 ∨ 0 = 0 from by omega), (show k25_174 ≤ n26 from by omega), (show 2 * (d_8 + j_14 + x_12) ≤ k25_174 from by omega), (show 0 ≤ 3 from by omega), (show pil f28_11 p_7 x_12 y_13 j_14 k_15 from hp_22), (show q_9 = x_12 + y_13 from by omega), (show x_12 + y_13 ≤ 6 from by omega), (show 1 ≤ 0 ∨ wfs f19_10 (200 * n14) d_8 (j_14 + (1 - 0)) from Or.inr hw_163), (show ∀ i : Nat, i < 200 * n14 → f19_10 i = fv 19 i from hfr_26)⟩ hP hD hS (lv_sub hl [3, 0, 4] rfl)
      have hlt41 : k25_166 < n26 := q_171.elim (fun h9 => absurd (h9.1.symm.trans c_349) (by decide)) (fun h9 => h9.1)
      refine lv_aload_n hx hb dX9_either_151 rfl (lv_at hl 4 rfl) ?_
      refine vp_callSi (W.runV (As := []) (rest := []) ⟨hx, hb, hml, hown, hts⟩ (m_brackets l D h0 ad cs (upd (upd (upd (upd (upd (upd iv 21 (nI (0))) 22 p22_6) 25 (nI k25_174)) 29 (nI p_7)) 30 (nI d_8)) 31 (nI q_9)) (uF (uF fv 19 f19_10) 28 f28_11) gv p_7  rfl (by omega)) (cwV 0 hts gX9_either_X9_brackets rfl rfl rfl (by decide +kernel) ⟨Nat.le_of_ble_eq_true rfl, Nat.le_of_ble_eq_true rfl⟩) ⟨fun a U g mk q => ⟨q.1, q.2.1, va_K.moved (u := U) (U := U.calling g mk a) (Vm.Alike.refl U.vm) q.2.2⟩, va_recv hK hP (ci := 9) (q0 := 0) rfl rfl, fun U hU hW => ⟨rfl, by rw [hU]; exact hP, va_K.moved hW.alike hK⟩⟩ rfl rfl hl.1 rfl (lv_room (Nat.le_of_ble_eq_true rfl)) dX9_either_152 ⟨Nat.le_of_ble_eq_true rfl, Nat.le_of_ble_eq_true rfl⟩) (fun r_350 k_351 => ?_)
      obtain ⟨b_352, rfl, hb_353, hb_354⟩ := k_351
      refine lv_if_le (tgt := 200) hx hb dX9_either_155 (by decide) (fun c_355 => ?_) (fun c_355 => ?_)
      · have d_356 := n_le (a := b_352) (b := 0) (by omega) (by omega) c_355
        refine lv_iconst (v := 0) hx hb dX9_either_200 (by decide) ?_
        refine lv_istore_n (lv' := [(2, .int 0), (4, .int (nI c_179)), (3, .int r_164), (1, .int (nI (0))), (0, .ref h0)]) hx hb dX9_either_201 rfl hl (by decide) rfl (fun ls hl => ?_)
        refine lv_goto (tgt := 19) hx hb dX9_either_202 (by decide) ?_
        exact ih_1 (0, 0, k25_174, 0, p22_6, p_7, d_8, q_9, f19_10, f28_11, x_12, y_13, j_14, k_15) (mw h0 ad cs (upd (upd (upd (upd (upd (upd iv 21 (nI 0)) 22 p22_6) 25 (nI k25_174)) 29 (nI p_7)) 30 (nI d_8)) 31 (nI q_9)) (uF (uF fv 19 f19_10) 28 f28_11) gv) _ _ ls (by show 2 * (n26 - k25_174) + 0 + (1 - 0) < 2 * (n26 - a_4) + mo_3 + (1 - (0)); omega) ⟨rfl, (show 0 ≤ 1 from by omega), (show 0 ≤ 1 from by omega), (show 1 ≤ 0 ∨ 0 = 0 from by omega), (show k25_174 ≤ n26 from by omega), (show 2 * (d_8 + j_14 + x_12) ≤ k25_174 from by omega), (show 0 ≤ 3 from by omega), (show pil f28_11 p_7 x_12 y_13 j_14 k_15 from hp_22), (show q_9 = x_12 + y_13 from by omega), (show x_12 + y_13 ≤ 6 from by omega), (show 1 ≤ 0 ∨ wfs f19_10 (200 * n14) d_8 (j_14 + (1 - 0)) from Or.inr hw_163), (show ∀ i : Nat, i < 200 * n14 → f19_10 i = fv 19 i from hfr_26)⟩ hP hD hS (lv_sub hl [3, 0, 4] rfl)
      have d_357 := n_nle (a := b_352) (b := 0) (by omega) (by omega) c_355
      obtain ⟨i9, hi9, hi8⟩ := hb_354.resolve_left (by omega)
      refine lv_aload_n hx hb dX9_either_158 rfl (lv_at hl 4 rfl) ?_
      refine lv_iconst (v := 1) hx hb dX9_either_159 (by decide) ?_
      have hFc := free_all hD hS hA
      refine va_callv (va_runV (As := [.int 1]) (rest := []) ⟨hx, hb, hml, hown, hts⟩ (m_joins l D h0 ad cs (upd (upd (upd (upd (upd (upd iv 21 (nI (0))) 22 p22_6) 25 (nI k25_174)) 29 (nI p_7)) 30 (nI d_8)) 31 (nI q_9)) (uF (uF fv 19 f19_10) 28 f28_11) gv n14 p_7 d_8 1 x_12 y_13 j_14 k_15 H.size h14 rfl rfl (by omega) (by omega) hp_22 (by omega) (by omega)) (cwV 1 hts gX9_either_X9_joins rfl rfl rfl (by decide +kernel) ⟨Nat.le_of_ble_eq_true rfl, Nat.le_of_ble_eq_true rfl⟩) ⟨fun a U g mk q => by obtain ⟨q0, q1, qP, qK, qD⟩ := q; exact ⟨q0, q1, qP, va_K.moved (u := U) (U := U.calling g mk a) (Vm.Alike.refl U.vm) qK, qD⟩, va_recv hK hP (ci := 9) (q0 := 0) rfl rfl, fun U hU hW => ⟨rfl, by rw [hU], by rw [hU]; exact hP, va_K.moved hW.alike hK, hD.weaken (fun _ _ _ _ => trivial)⟩⟩ rfl rfl hl.1 rfl (lv_room (Nat.le_of_ble_eq_true rfl)) dX9_either_160 ⟨Nat.le_of_ble_eq_true rfl, Nat.le_of_ble_eq_true rfl⟩) hS (fun q _ h => hFc q h) hFc (fun u t H1 locs ht hvm w_359 hB hz1 hk1 hS => ?_)
      obtain ⟨k29_360, k30_361, f19_362, gj2_363, gk2_364, q_365, q_366, q_367, q_368, q_369, q_370, q_371, q_372, hP1, hK1, hD1⟩ := hB
      replace q_365 : pil ((f28_11)) k29_360 x_12 y_13 gj2_363 gk2_364 := q_365
      replace q_369 : ∀ i : Nat, k29_360 ≤ i → i < p_7 → (f28_11) i = 1 ∨ (f28_11) i = 2 := q_369
      replace q_370 : ∀ i : Nat, i < 200 * n14 → f19_362 i = (f19_10) i := q_370
      replace q_371 : wfs ((f19_10)) (200 * n14) d_8 (j_14 + 1) → wfs f19_362 (200 * n14) k30_361 (gj2_363 + 1) := q_371
      rw [ht] at hP1
      have hK := va_K.moved hvm.symm hK1
      generalize H1 = H at hP1 hS ⊢
      have hP : va_P D vwCl (mw h0 ad cs (upd (upd (upd (upd (upd (upd iv 21 (nI (0))) 22 p22_6) 25 (nI k25_174)) 29 (nI k29_360)) 30 (nI k30_361)) 31 (nI q_9)) (uF (uF fv 19 f19_362) 28 f28_11) gv) H := hP1
      have hD : va_D A (mw h0 ad cs (upd (upd (upd (upd (upd (upd iv 21 (nI (0))) 22 p22_6) 25 (nI k25_174)) 29 (nI k29_360)) 30 (nI k30_361)) 31 (nI q_9)) (uF (uF fv 19 f19_362) 28 f28_11) gv) := hD1.weaken (fun _ _ _ h => hFc _ h)
      have hfr_373 : ∀ i : Nat, i < 200 * n14 → f19_362 i = fv 19 i := fun i h9 => (q_370 i h9).trans (hfr_26 i h9)
      have hw_374 := q_371 hw_163
      have hlen2 := q_365.len
      have hk1 : 1 ≤ k29_360 := (Nat.lt_or_ge i9 k29_360).elim (fun q => by omega) (fun q => absurd hi8 (nj12 (q_369 i9 q hi9)))
      obtain rfl : gk2_364 = 0 := by omega
      obtain ⟨hb_375, x_376, y_377, k_378, hxy_379, hx_380, hp_381⟩ := q_365.popB hk1
      refine lv_aload_n hx hb dX9_either_163 rfl (lv_at hl 4 rfl) ?_
      refine lv_dup hx hb dX9_either_164 rfl ?_
      refine va_get (D := D) (ci := 9) (v := .int (nI k29_360)) (C := RX9) (T := TX9) (N := 44) hx hb hts hin9 hown hK hP 0 rfl rfl 29 (by decide) (hts (.fieldLink RX9 99 "HoneyHouseModel" "piled" "I") (List.mem_of_getElem? (i := 1) rfl)) (fun _ h9 => h9) rfl dX9_either_165 ?_
      refine lv_iconst (v := 1) hx hb dX9_either_168 (by decide) ?_
      refine lv_isub hx hb dX9_either_169 ?_
      refine tp_i (y := nI (k29_360 - 1)) (pk_sub (a := k29_360) (b := 1) (by omega)) ?_
      refine va_put (D := D) (ci := 9) (v := .int (nI (k29_360 - 1))) (ty := .int) (C := RX9) (T := TX9) (N := 44) hx hb hts hin9 tyX9 tyX9_ok nmX9 hown hK hP hD hS 0 rfl rfl 29 (by decide) (hts (.fieldLink RX9 99 "HoneyHouseModel" "piled" "I") (List.mem_of_getElem? (i := 1) rfl)) (fun _ h9 => h9) rfl (tyX9_ok 29 (by decide)) rfl rfl (Nat.le_of_ble_eq_true rfl) dX9_either_170 (fun H locs hP hD hS => ?_)
      have hP : va_P D vwCl (mw h0 ad cs (upd (upd (upd (upd (upd (upd iv 21 (nI (0))) 22 p22_6) 25 (nI k25_174)) 29 (nI (k29_360 - 1))) 30 (nI k30_361)) 31 (nI q_9)) (uF (uF fv 19 f19_362) 28 f28_11) gv) H := hP
      have hD : va_D A (mw h0 ad cs (upd (upd (upd (upd (upd (upd iv 21 (nI (0))) 22 p22_6) 25 (nI k25_174)) 29 (nI (k29_360 - 1))) 30 (nI k30_361)) 31 (nI q_9)) (uF (uF fv 19 f19_362) 28 f28_11) gv) := hD
      refine lv_aload_n hx hb dX9_either_173 rfl (lv_at hl 4 rfl) ?_
      refine lv_dup hx hb dX9_either_174 rfl ?_
      refine va_get (D := D) (ci := 9) (v := .int (nI q_9)) (C := RX9) (T := TX9) (N := 44) hx hb hts hin9 hown hK hP 0 rfl rfl 31 (by decide) (hts (.fieldLink RX9 105 "HoneyHouseModel" "deep" "I") (List.mem_of_getElem? (i := 3) rfl)) (fun _ h9 => h9) rfl dX9_either_175 ?_
      refine lv_iconst (v := 1) hx hb dX9_either_178 (by decide) ?_
      refine lv_isub hx hb dX9_either_179 ?_
      refine tp_i (y := nI (q_9 - 1)) (pk_sub (a := q_9) (b := 1) (by omega)) ?_
      refine va_put (D := D) (ci := 9) (v := .int (nI (q_9 - 1))) (ty := .int) (C := RX9) (T := TX9) (N := 44) hx hb hts hin9 tyX9 tyX9_ok nmX9 hown hK hP hD hS 0 rfl rfl 31 (by decide) (hts (.fieldLink RX9 105 "HoneyHouseModel" "deep" "I") (List.mem_of_getElem? (i := 3) rfl)) (fun _ h9 => h9) rfl (tyX9_ok 31 (by decide)) rfl rfl (Nat.le_of_ble_eq_true rfl) dX9_either_180 (fun H locs hP hD hS => ?_)
      have hP : va_P D vwCl (mw h0 ad cs (upd (upd (upd (upd (upd (upd iv 21 (nI (0))) 22 p22_6) 25 (nI k25_174)) 29 (nI (k29_360 - 1))) 30 (nI k30_361)) 31 (nI (q_9 - 1))) (uF (uF fv 19 f19_362) 28 f28_11) gv) H := hP
      have hD : va_D A (mw h0 ad cs (upd (upd (upd (upd (upd (upd iv 21 (nI (0))) 22 p22_6) 25 (nI k25_174)) 29 (nI (k29_360 - 1))) 30 (nI k30_361)) 31 (nI (q_9 - 1))) (uF (uF fv 19 f19_362) 28 f28_11) gv) := hD
      refine lv_aload_n hx hb dX9_either_183 rfl (lv_at hl 4 rfl) ?_
      refine lv_dup hx hb dX9_either_184 rfl ?_
      refine va_get (D := D) (ci := 9) (v := .int (nI k25_174)) (C := RX9) (T := TX9) (N := 44) hx hb hts hin9 hown hK hP 0 rfl rfl 25 (by decide) (hts (.fieldLink RX9 87 "HoneyHouseModel" "at" "I") (List.mem_of_getElem? (i := 6) rfl)) (fun _ h9 => h9) rfl dX9_either_185 ?_
      refine lv_iconst (v := 1) hx hb dX9_either_188 (by decide) ?_
      refine lv_iadd hx hb dX9_either_189 ?_
      refine tp_i (y := nI (k25_174 + 1)) (nI_add k25_174 1) ?_
      refine va_put (D := D) (ci := 9) (v := .int (nI (k25_174 + 1))) (ty := .int) (C := RX9) (T := TX9) (N := 44) hx hb hts hin9 tyX9 tyX9_ok nmX9 hown hK hP hD hS 0 rfl rfl 25 (by decide) (hts (.fieldLink RX9 87 "HoneyHouseModel" "at" "I") (List.mem_of_getElem? (i := 6) rfl)) (fun _ h9 => h9) rfl (tyX9_ok 25 (by decide)) rfl rfl (Nat.le_of_ble_eq_true rfl) dX9_either_190 (fun H locs hP hD hS => ?_)
      have hP : va_P D vwCl (mw h0 ad cs (upd (upd (upd (upd (upd (upd iv 21 (nI (0))) 22 p22_6) 25 (nI (k25_174 + 1))) 29 (nI (k29_360 - 1))) 30 (nI k30_361)) 31 (nI (q_9 - 1))) (uF (uF fv 19 f19_362) 28 f28_11) gv) H := hP
      have hD : va_D A (mw h0 ad cs (upd (upd (upd (upd (upd (upd iv 21 (nI (0))) 22 p22_6) 25 (nI (k25_174 + 1))) 29 (nI (k29_360 - 1))) 30 (nI k30_361)) 31 (nI (q_9 - 1))) (uF (uF fv 19 f19_362) 28 f28_11) gv) := hD
      refine lv_aload_n hx hb dX9_either_193 rfl (lv_at hl 4 rfl) ?_
      have hFc := free_all hD hS hA
      refine va_callv (va_runV (As := []) (rest := []) ⟨hx, hb, hml, hown, hts⟩ (m_nots l D h0 ad cs (upd (upd (upd (upd (upd (upd iv 21 (nI (0))) 22 p22_6) 25 (nI (k25_174 + 1))) 29 (nI (k29_360 - 1))) 30 (nI k30_361)) 31 (nI (q_9 - 1))) (uF (uF fv 19 f19_362) 28 f28_11) gv n14 (k29_360 - 1) k30_361 (q_9 - 1) x_376 y_377 gj2_363 k_378 H.size h14 rfl rfl rfl (by omega) hp_381 (by omega) (by omega) (by omega)) (cwV 0 hts gX9_either_X9_nots rfl rfl rfl (by decide +kernel) ⟨Nat.le_of_ble_eq_true rfl, Nat.le_of_ble_eq_true rfl⟩) ⟨fun a U g mk q => by obtain ⟨q0, q1, qP, qK, qD⟩ := q; exact ⟨q0, q1, qP, va_K.moved (u := U) (U := U.calling g mk a) (Vm.Alike.refl U.vm) qK, qD⟩, va_recv hK hP (ci := 9) (q0 := 0) rfl rfl, fun U hU hW => ⟨rfl, by rw [hU], by rw [hU]; exact hP, va_K.moved hW.alike hK, hD.weaken (fun _ _ _ _ => trivial)⟩⟩ rfl rfl hl.1 rfl (lv_room (Nat.le_of_ble_eq_true rfl)) dX9_either_194 ⟨Nat.le_of_ble_eq_true rfl, Nat.le_of_ble_eq_true rfl⟩) hS (fun q _ h => hFc q h) hFc (fun u t H1 locs ht hvm w_383 hB hz1 hk1 hS => ?_)
      obtain ⟨k29_384, k30_385, k31_386, f19_387, gx2_388, gk2_389, q_390, q_391, q_392, q_393, q_394, q_395, hP1, hK1, hD1⟩ := hB
      replace q_390 : pil ((f28_11)) k29_384 gx2_388 y_377 gj2_363 gk2_389 := q_390
      replace q_394 : ∀ i : Nat, i < 200 * n14 → f19_387 i = (f19_362) i := q_394
      replace q_395 : ∀ n : Nat, 1 ≤ n → wfs ((f19_362)) (200 * n14) k30_361 n → wfs f19_387 (200 * n14) k30_385 n := q_395
      rw [ht] at hP1
      have hK := va_K.moved hvm.symm hK1
      generalize H1 = H at hP1 hS ⊢
      have hP : va_P D vwCl (mw h0 ad cs (upd (upd (upd (upd (upd (upd iv 21 (nI (0))) 22 p22_6) 25 (nI (k25_174 + 1))) 29 (nI k29_384)) 30 (nI k30_385)) 31 (nI k31_386)) (uF (uF fv 19 f19_387) 28 f28_11) gv) H := hP1
      have hD : va_D A (mw h0 ad cs (upd (upd (upd (upd (upd (upd iv 21 (nI (0))) 22 p22_6) 25 (nI (k25_174 + 1))) 29 (nI k29_384)) 30 (nI k30_385)) 31 (nI k31_386)) (uF (uF fv 19 f19_387) 28 f28_11) gv) := hD1.weaken (fun _ _ _ h => hFc _ h)
      have hfr_396 : ∀ i : Nat, i < 200 * n14 → f19_387 i = fv 19 i := fun i h9 => (q_394 i h9).trans (hfr_373 i h9)
      refine lv_goto (tgt := 202) hx hb dX9_either_197 (by decide) ?_
      refine lv_goto (tgt := 19) hx hb dX9_either_202 (by decide) ?_
      exact ih_1 (0, mo_3, k25_174 + 1, 0, p22_6, k29_384, k30_385, k31_386, f19_387, f28_11, gx2_388, y_377, gj2_363, gk2_389) (mw h0 ad cs (upd (upd (upd (upd (upd (upd iv 21 (nI 0)) 22 p22_6) 25 (nI (k25_174 + 1))) 29 (nI k29_384)) 30 (nI k30_385)) 31 (nI k31_386)) (uF (uF fv 19 f19_387) 28 f28_11) gv) _ _ ls (by show 2 * (n26 - (k25_174 + 1)) + mo_3 + (1 - 0) < 2 * (n26 - a_4) + mo_3 + (1 - (0)); omega) ⟨rfl, (show 0 ≤ 1 from by omega), (show mo_3 ≤ 1 from by omega), (show 1 ≤ mo_3 ∨ 0 = 0 from by omega), (show (k25_174 + 1) ≤ n26 from by omega), (show 2 * (k30_385 + gj2_363 + gx2_388) ≤ (k25_174 + 1) from by omega), (show 0 ≤ 3 from by omega), (show pil f28_11 k29_384 gx2_388 y_377 gj2_363 gk2_389 from q_390), (show k31_386 = gx2_388 + y_377 from by omega), (show gx2_388 + y_377 ≤ 6 from by omega), (show 1 ≤ 0 ∨ wfs f19_387 (200 * n14) k30_385 (gj2_363 + (1 - 0)) from Or.inr (q_395 _ (by omega) hw_374)), (show ∀ i : Nat, i < 200 * n14 → f19_387 i = fv 19 i from hfr_396)⟩ hP hD hS (lv_sub hl [2, 3, 4] rfl)
    have d_397 := n_eq (a := c_179) (b := 1) (by omega) (by omega) c_347
    obtain rfl : c_179 = 1 := by omega
    refine lv_aload_n hx hb dX9_either_105 rfl (lv_at hl 4 rfl) ?_
    refine lv_iload hx hb dX9_either_106 (lv_at hl 0 rfl) ?_
    have hFc := free_all hD hS hA
    refine va_callv (va_runV (As := [.int (nI (1))]) (rest := []) ⟨hx, hb, hml, hown, hts⟩ (m_joins l D h0 ad cs (upd (upd (upd (upd (upd (upd iv 21 (nI (0))) 22 p22_6) 25 (nI k25_174)) 29 (nI p_7)) 30 (nI d_8)) 31 (nI q_9)) (uF (uF fv 19 f19_10) 28 f28_11) gv n14 p_7 d_8 1 x_12 y_13 j_14 k_15 H.size h14 rfl rfl (by omega) (by omega) hp_22 (by omega) (by omega)) (cwV 1 hts gX9_either_X9_joins rfl rfl rfl (by decide +kernel) ⟨Nat.le_of_ble_eq_true rfl, Nat.le_of_ble_eq_true rfl⟩) ⟨fun a U g mk q => by obtain ⟨q0, q1, qP, qK, qD⟩ := q; exact ⟨q0, q1, qP, va_K.moved (u := U) (U := U.calling g mk a) (Vm.Alike.refl U.vm) qK, qD⟩, va_recv hK hP (ci := 9) (q0 := 0) rfl rfl, fun U hU hW => ⟨rfl, by rw [hU], by rw [hU]; exact hP, va_K.moved hW.alike hK, hD.weaken (fun _ _ _ _ => trivial)⟩⟩ rfl rfl hl.1 rfl (lv_room (Nat.le_of_ble_eq_true rfl)) dX9_either_108 ⟨Nat.le_of_ble_eq_true rfl, Nat.le_of_ble_eq_true rfl⟩) hS (fun q _ h => hFc q h) hFc (fun u t H1 locs ht hvm w_399 hB hz1 hk1 hS => ?_)
    obtain ⟨k29_400, k30_401, f19_402, gj2_403, gk2_404, q_405, q_406, q_407, q_408, q_409, q_410, q_411, q_412, hP1, hK1, hD1⟩ := hB
    replace q_405 : pil ((f28_11)) k29_400 x_12 y_13 gj2_403 gk2_404 := q_405
    replace q_409 : ∀ i : Nat, k29_400 ≤ i → i < p_7 → (f28_11) i = 1 ∨ (f28_11) i = 2 := q_409
    replace q_410 : ∀ i : Nat, i < 200 * n14 → f19_402 i = (f19_10) i := q_410
    replace q_411 : wfs ((f19_10)) (200 * n14) d_8 (j_14 + 1) → wfs f19_402 (200 * n14) k30_401 (gj2_403 + 1) := q_411
    rw [ht] at hP1
    have hK := va_K.moved hvm.symm hK1
    generalize H1 = H at hP1 hS ⊢
    have hP : va_P D vwCl (mw h0 ad cs (upd (upd (upd (upd (upd (upd iv 21 (nI (0))) 22 p22_6) 25 (nI k25_174)) 29 (nI k29_400)) 30 (nI k30_401)) 31 (nI q_9)) (uF (uF fv 19 f19_402) 28 f28_11) gv) H := hP1
    have hD : va_D A (mw h0 ad cs (upd (upd (upd (upd (upd (upd iv 21 (nI (0))) 22 p22_6) 25 (nI k25_174)) 29 (nI k29_400)) 30 (nI k30_401)) 31 (nI q_9)) (uF (uF fv 19 f19_402) 28 f28_11) gv) := hD1.weaken (fun _ _ _ h => hFc _ h)
    have hfr_413 : ∀ i : Nat, i < 200 * n14 → f19_402 i = fv 19 i := fun i h9 => (q_410 i h9).trans (hfr_26 i h9)
    have hw_414 := q_411 hw_163
    have hlen2 := q_405.len
    refine lv_aload_n hx hb dX9_either_111 rfl (lv_at hl 4 rfl) ?_
    refine va_get (D := D) (ci := 9) (v := .ref (ad 28)) (C := RX9) (T := TX9) (N := 44) hx hb hts hin9 hown hK hP 0 rfl rfl 28 (by decide) (hts (.fieldLink RX9 96 "HoneyHouseModel" "pile" "[I") (List.mem_of_getElem? (i := 5) rfl)) (fun _ h9 => h9) rfl dX9_either_112 ?_
    refine lv_aload_n hx hb dX9_either_115 rfl (lv_at hl 4 rfl) ?_
    refine va_get (D := D) (ci := 9) (v := .int (nI k29_400)) (C := RX9) (T := TX9) (N := 44) hx hb hts hin9 hown hK hP 0 rfl rfl 29 (by decide) (hts (.fieldLink RX9 99 "HoneyHouseModel" "piled" "I") (List.mem_of_getElem? (i := 1) rfl)) (fun _ h9 => h9) rfl dX9_either_116 ?_
    refine lv_iload hx hb dX9_either_119 (lv_at hl 0 rfl) ?_
    refine va_iast (f := f28_11) (n := 32) hx hb hK hP hD hS 19 18 rfl rfl (vp_in_nI (n := k29_400) (by omega) (by omega)) dX9_either_121 (fun H locs hP hD hS => ?_)
    have hP : va_P D vwCl (mw h0 ad cs (upd (upd (upd (upd (upd (upd iv 21 (nI (0))) 22 p22_6) 25 (nI k25_174)) 29 (nI k29_400)) 30 (nI k30_401)) 31 (nI q_9)) (uF (uF fv 19 f19_402) 28 (upd f28_11 (nI k29_400).toNatClampNeg (nI (1)))) gv) H := hP
    have hD : va_D A (mw h0 ad cs (upd (upd (upd (upd (upd (upd iv 21 (nI (0))) 22 p22_6) 25 (nI k25_174)) 29 (nI k29_400)) 30 (nI k30_401)) 31 (nI q_9)) (uF (uF fv 19 f19_402) 28 (upd f28_11 (nI k29_400).toNatClampNeg (nI (1)))) gv) := hD
    obtain ⟨f_415, hf_416⟩ : ∃ g9, g9 = upd f28_11 (nI k29_400).toNatClampNeg (nI (1)) := ⟨_, rfl⟩
    rw [← hf_416] at hP hD
    rw [nI_clamp (n := k29_400) (by omega)] at hf_416
    obtain rfl : gk2_404 = 0 := by omega
    have hp_417 : pil f_415 (k29_400 + 1) x_12 y_13 (gj2_403 + 1) 1 := by rw [hf_416]; exact (q_405.up _).or up_eq
    refine lv_aload_n hx hb dX9_either_122 rfl (lv_at hl 4 rfl) ?_
    refine lv_dup hx hb dX9_either_123 rfl ?_
    refine va_get (D := D) (ci := 9) (v := .int (nI k29_400)) (C := RX9) (T := TX9) (N := 44) hx hb hts hin9 hown hK hP 0 rfl rfl 29 (by decide) (hts (.fieldLink RX9 99 "HoneyHouseModel" "piled" "I") (List.mem_of_getElem? (i := 1) rfl)) (fun _ h9 => h9) rfl dX9_either_124 ?_
    refine lv_iconst (v := 1) hx hb dX9_either_127 (by decide) ?_
    refine lv_iadd hx hb dX9_either_128 ?_
    refine tp_i (y := nI (k29_400 + 1)) (nI_add k29_400 1) ?_
    refine va_put (D := D) (ci := 9) (v := .int (nI (k29_400 + 1))) (ty := .int) (C := RX9) (T := TX9) (N := 44) hx hb hts hin9 tyX9 tyX9_ok nmX9 hown hK hP hD hS 0 rfl rfl 29 (by decide) (hts (.fieldLink RX9 99 "HoneyHouseModel" "piled" "I") (List.mem_of_getElem? (i := 1) rfl)) (fun _ h9 => h9) rfl (tyX9_ok 29 (by decide)) rfl rfl (Nat.le_of_ble_eq_true rfl) dX9_either_129 (fun H locs hP hD hS => ?_)
    have hP : va_P D vwCl (mw h0 ad cs (upd (upd (upd (upd (upd (upd iv 21 (nI (0))) 22 p22_6) 25 (nI k25_174)) 29 (nI (k29_400 + 1))) 30 (nI k30_401)) 31 (nI q_9)) (uF (uF fv 19 f19_402) 28 f_415) gv) H := hP
    have hD : va_D A (mw h0 ad cs (upd (upd (upd (upd (upd (upd iv 21 (nI (0))) 22 p22_6) 25 (nI k25_174)) 29 (nI (k29_400 + 1))) 30 (nI k30_401)) 31 (nI q_9)) (uF (uF fv 19 f19_402) 28 f_415) gv) := hD
    refine lv_aload_n hx hb dX9_either_132 rfl (lv_at hl 4 rfl) ?_
    refine lv_aload_n hx hb dX9_either_133 rfl (lv_at hl 4 rfl) ?_
    refine vp_callSi (W.runV (As := []) (rest := [.ref h0]) ⟨hx, hb, hml, hown, hts⟩ (m_wordEnd l D h0 ad cs (upd (upd (upd (upd (upd (upd iv 21 (nI (0))) 22 p22_6) 25 (nI k25_174)) 29 (nI (k29_400 + 1))) 30 (nI k30_401)) 31 (nI q_9)) (uF (uF fv 19 f19_402) 28 f_415) gv k25_174 n26  rfl h26 (by omega) (by omega)) (cwV 0 hts gX9_either_X9_wordEnd rfl rfl rfl (by decide +kernel) ⟨Nat.le_of_ble_eq_true rfl, Nat.le_of_ble_eq_true rfl⟩) ⟨fun a U g mk q => ⟨q.1, q.2.1, va_K.moved (u := U) (U := U.calling g mk a) (Vm.Alike.refl U.vm) q.2.2⟩, va_recv hK hP (ci := 9) (q0 := 0) rfl rfl, fun U hU hW => ⟨rfl, by rw [hU]; exact hP, va_K.moved hW.alike hK⟩⟩ rfl rfl hl.1 rfl (lv_room (Nat.le_of_ble_eq_true rfl)) dX9_either_134 ⟨Nat.le_of_ble_eq_true rfl, Nat.le_of_ble_eq_true rfl⟩) (fun r_418 k_419 => ?_)
    obtain ⟨e_420, rfl, he_421⟩ := k_419
    have hq_e_420 : e_420 = e_180 := he_421.uq he_181
    refine va_put (D := D) (ci := 9) (v := .int (nI e_420)) (ty := .int) (C := RX9) (T := TX9) (N := 44) hx hb hts hin9 tyX9 tyX9_ok nmX9 hown hK hP hD hS 0 rfl rfl 25 (by decide) (hts (.fieldLink RX9 87 "HoneyHouseModel" "at" "I") (List.mem_of_getElem? (i := 6) rfl)) (fun _ h9 => h9) rfl (tyX9_ok 25 (by decide)) rfl rfl (Nat.le_of_ble_eq_true rfl) dX9_either_137 (fun H locs hP hD hS => ?_)
    have hP : va_P D vwCl (mw h0 ad cs (upd (upd (upd (upd (upd (upd iv 21 (nI (0))) 22 p22_6) 25 (nI e_420)) 29 (nI (k29_400 + 1))) 30 (nI k30_401)) 31 (nI q_9)) (uF (uF fv 19 f19_402) 28 f_415) gv) H := hP
    have hD : va_D A (mw h0 ad cs (upd (upd (upd (upd (upd (upd iv 21 (nI (0))) 22 p22_6) 25 (nI e_420)) 29 (nI (k29_400 + 1))) 30 (nI k30_401)) 31 (nI q_9)) (uF (uF fv 19 f19_402) 28 f_415) gv) := hD
    refine lv_iconst (v := 1) hx hb dX9_either_140 (by decide) ?_
    refine lv_istore_n (lv' := [(1, .int 1), (4, .int (nI (1))), (3, .int r_164), (2, .int (nI mo_3)), (0, .ref h0)]) hx hb dX9_either_141 rfl hl (by decide) rfl (fun ls hl => ?_)
    refine lv_goto (tgt := 202) hx hb dX9_either_142 (by decide) ?_
    refine lv_goto (tgt := 19) hx hb dX9_either_202 (by decide) ?_
    exact ih_1 (1, mo_3, e_420, 0, p22_6, k29_400 + 1, k30_401, q_9, f19_402, f_415, x_12, y_13, gj2_403 + 1, 1) (mw h0 ad cs (upd (upd (upd (upd (upd (upd iv 21 (nI 0)) 22 p22_6) 25 (nI e_420)) 29 (nI (k29_400 + 1))) 30 (nI k30_401)) 31 (nI q_9)) (uF (uF fv 19 f19_402) 28 f_415) gv) _ _ ls (by show 2 * (n26 - e_420) + mo_3 + (1 - 0) < 2 * (n26 - a_4) + mo_3 + (1 - (0)); omega) ⟨rfl, (show 1 ≤ 1 from by omega), (show mo_3 ≤ 1 from by omega), (show 1 ≤ mo_3 ∨ 1 = 0 from by omega), (show e_420 ≤ n26 from by omega), (show 2 * (k30_401 + (gj2_403 + 1) + x_12) ≤ e_420 from by omega), (show 0 ≤ 3 from by omega), (show pil f_415 (k29_400 + 1) x_12 y_13 (gj2_403 + 1) 1 from hp_417), (show q_9 = x_12 + y_13 from by omega), (show x_12 + y_13 ≤ 6 from by omega), (show 1 ≤ 0 ∨ wfs f19_402 (200 * n14) k30_401 ((gj2_403 + 1) + (1 - 1)) from Or.inr hw_414), (show ∀ i : Nat, i < 200 * n14 → f19_402 i = fv 19 i from hfr_413)⟩ hP hD hS (lv_sub hl [0, 3, 4] rfl)
  have d_422 := n_ne (a := du_2) (b := 0) (by omega) (by omega) c_317
  obtain rfl : du_2 = 1 := by omega
  refine lv_iload_n hx hb dX9_either_45 rfl (lv_at hl 1 rfl) ?_
  refine lv_bipush (v := 40) hx hb dX9_either_46 (by decide) ?_
  refine lv_icmp_eq (tgt := 57) hx hb dX9_either_48 (by decide) (fun c_423 => ?_) (fun c_423 => ?_)
  · have hlt40 : k25_166 < n26 := q_171.elim (fun h9 => absurd (h9.1.symm.trans c_423) (by decide)) (fun h9 => h9.1)
    refine lv_aload_n hx hb dX9_either_57 rfl (lv_at hl 4 rfl) ?_
    refine lv_iload_n hx hb dX9_either_58 rfl (lv_at hl 1 rfl) ?_
    refine lv_bipush (v := 40) hx hb dX9_either_59 (by decide) ?_
    refine lv_icmp_ne (tgt := 69) hx hb dX9_either_61 (by decide) (fun c_424 => absurd (c_423) c_424) (fun c_424 => ?_)
    refine lv_bipush (v := 12) hx hb dX9_either_64 (by decide) ?_
    refine lv_goto (tgt := 70) hx hb dX9_either_66 (by decide) ?_
    have hFc := free_all hD hS hA
    refine va_callv (va_runV (As := [.int 12]) (rest := []) ⟨hx, hb, hml, hown, hts⟩ (m_opens l D h0 ad cs (upd (upd (upd (upd (upd (upd iv 21 (nI (0))) 22 p22_6) 25 (nI k25_174)) 29 (nI p_7)) 30 (nI d_8)) 31 (nI q_9)) (uF (uF fv 19 f19_10) 28 f28_11) gv 0 k25_174 n26 p_7 q_9 12 x_12 y_13 j_14 k_15 H.size rfl rfl h26 rfl rfl (by omega) (by omega) (by omega) hp_22 (by omega) (by omega) (Or.inl ⟨rfl, by omega⟩)) (cwV 1 hts gX9_either_X9_opens rfl rfl rfl (by decide +kernel) ⟨Nat.le_of_ble_eq_true rfl, Nat.le_of_ble_eq_true rfl⟩) ⟨fun a U g mk q => by obtain ⟨q0, q1, qP, qK, qD⟩ := q; exact ⟨q0, q1, qP, va_K.moved (u := U) (U := U.calling g mk a) (Vm.Alike.refl U.vm) qK, qD⟩, va_recv hK hP (ci := 9) (q0 := 0) rfl rfl, fun U hU hW => ⟨rfl, by rw [hU], by rw [hU]; exact hP, va_K.moved hW.alike hK, hD.weaken (fun _ _ _ _ => trivial)⟩⟩ rfl rfl hl.1 rfl (lv_room (Nat.le_of_ble_eq_true rfl)) dX9_either_70 ⟨Nat.le_of_ble_eq_true rfl, Nat.le_of_ble_eq_true rfl⟩) hS (fun q _ h => hFc q h) hFc (fun u t H1 locs ht hvm w_426 hB hz1 hk1 hS => ?_)
    obtain ⟨k21_427, p22_428, k25_429, k29_430, k31_431, f28_432, q_433, q_434, hP1, hK1, hD1⟩ := hB
    replace q_434 : (1 ≤ k21_427 ∧ k25_429 = k25_174 ∧ k29_430 = p_7 ∧ k31_431 = q_9 ∧ f28_432 = (f28_11)) ∨ (k21_427 = 0 ∧ k25_174 + 1 ≤ k25_429 ∧ k25_429 ≤ n26 ∧ k31_431 = q_9 + 1 ∧ q_9 ≤ 5 ∧ ∃ x y : Nat, x + y = x_12 + y_13 + 1 ∧ (x = x_12 ∨ (x = x_12 + 1 ∧ k25_174 + 3 ≤ k25_429)) ∧ pil f28_432 k29_430 x y j_14 0) := q_434
    rw [ht] at hP1
    have hK := va_K.moved hvm.symm hK1
    generalize H1 = H at hP1 hS ⊢
    have hP : va_P D vwCl (mw h0 ad cs (upd (upd (upd (upd (upd (upd iv 21 (nI k21_427)) 22 p22_428) 25 (nI k25_429)) 29 (nI k29_430)) 30 (nI d_8)) 31 (nI k31_431)) (uF (uF fv 19 f19_10) 28 f28_432) gv) H := hP1
    have hD : va_D A (mw h0 ad cs (upd (upd (upd (upd (upd (upd iv 21 (nI k21_427)) 22 p22_428) 25 (nI k25_429)) 29 (nI k29_430)) 30 (nI d_8)) 31 (nI k31_431)) (uF (uF fv 19 f19_10) 28 f28_432) gv) := hD1.weaken (fun _ _ _ h => hFc _ h)
    rcases q_434 with ⟨hpos_435, e25_436, e29_437, e31_438, e28_439⟩ | ⟨rfl, h1_440, h2_441, h3_442, h5_443, x_444, y_445, hxy_446, hx3_447, hp_448⟩
    · refine lv_goto (tgt := 202) hx hb dX9_either_73 (by decide) ?_
      refine lv_goto (tgt := 19) hx hb dX9_either_202 (by decide) ?_
      exact ih_1 (1, mo_3, k25_429, k21_427, p22_428, k29_430, d_8, k31_431, f19_10, f28_432, x_12, y_13, j_14, k_15) (mw h0 ad cs (upd (upd (upd (upd (upd (upd iv 21 (nI k21_427)) 22 p22_428) 25 (nI k25_429)) 29 (nI k29_430)) 30 (nI d_8)) 31 (nI k31_431)) (uF (uF fv 19 f19_10) 28 f28_432) gv) _ _ ls (by show 2 * (n26 - k25_429) + mo_3 + (1 - k21_427) < 2 * (n26 - a_4) + mo_3 + (1 - (0)); omega) ⟨rfl, (show 1 ≤ 1 from by omega), (show mo_3 ≤ 1 from by omega), (show 1 ≤ mo_3 ∨ 1 = 0 from by omega), (show k25_429 ≤ n26 from by omega), (show 2 * (d_8 + j_14 + x_12) ≤ k25_429 from by omega), (show k21_427 ≤ 3 from by omega), (show pil f28_432 k29_430 x_12 y_13 j_14 k_15 from (by rw [e28_439, e29_437]; exact hp_22)), (show k31_431 = x_12 + y_13 from by omega), (show x_12 + y_13 ≤ 6 from by omega), (show 1 ≤ k21_427 ∨ wfs f19_10 (200 * n14) d_8 (j_14 + (1 - 1)) from Or.inl (by omega)), (show ∀ i : Nat, i < 200 * n14 → f19_10 i = fv 19 i from hfr_26)⟩ hP hD hS (lv_sub hl [2, 3, 4] rfl)
    refine lv_goto (tgt := 202) hx hb dX9_either_73 (by decide) ?_
    refine lv_goto (tgt := 19) hx hb dX9_either_202 (by decide) ?_
    exact ih_1 (1, mo_3, k25_429, 0, p22_428, k29_430, d_8, k31_431, f19_10, f28_432, x_444, y_445, j_14, 0) (mw h0 ad cs (upd (upd (upd (upd (upd (upd iv 21 (nI 0)) 22 p22_428) 25 (nI k25_429)) 29 (nI k29_430)) 30 (nI d_8)) 31 (nI k31_431)) (uF (uF fv 19 f19_10) 28 f28_432) gv) _ _ ls (by show 2 * (n26 - k25_429) + mo_3 + (1 - 0) < 2 * (n26 - a_4) + mo_3 + (1 - (0)); omega) ⟨rfl, (show 1 ≤ 1 from by omega), (show mo_3 ≤ 1 from by omega), (show 1 ≤ mo_3 ∨ 1 = 0 from by omega), (show k25_429 ≤ n26 from by omega), (show 2 * (d_8 + j_14 + x_444) ≤ k25_429 from by omega), (show 0 ≤ 3 from by omega), (show pil f28_432 k29_430 x_444 y_445 j_14 0 from hp_448), (show k31_431 = x_444 + y_445 from by omega), (show x_444 + y_445 ≤ 6 from by omega), (show 1 ≤ 0 ∨ wfs f19_10 (200 * n14) d_8 (j_14 + (1 - 1)) from Or.inr hw_163), (show ∀ i : Nat, i < 200 * n14 → f19_10 i = fv 19 i from hfr_26)⟩ hP hD hS (lv_sub hl [2, 3, 4] rfl)
  refine lv_iload hx hb dX9_either_51 (lv_at hl 0 rfl) ?_
  refine lv_iconst (v := 3) hx hb dX9_either_53 (by decide) ?_
  refine lv_icmp_ne (tgt := 76) hx hb dX9_either_54 (by decide) (fun c_449 => ?_) (fun c_449 => ?_)
  · have d_450 := n_ne (a := c_179) (b := 3) (by omega) (by omega) c_449
    refine lv_iload_n hx hb dX9_either_76 rfl (lv_at hl 2 rfl) ?_
    refine lv_if_eq (tgt := 93) hx hb dX9_either_77 (by decide) (fun c_451 => absurd c_451 (by decide)) (fun c_451 => ?_)
    refine lv_aload_n hx hb dX9_either_80 rfl (lv_at hl 4 rfl) ?_
    have hFc := free_all hD hS hA
    refine va_callv (va_runV (As := []) (rest := []) ⟨hx, hb, hml, hown, hts⟩ (m_test_ l D h0 ad cs (upd (upd (upd (upd (upd (upd iv 21 (nI (0))) 22 p22_6) 25 (nI k25_174)) 29 (nI p_7)) 30 (nI d_8)) 31 (nI q_9)) (uF (uF fv 19 f19_10) 28 f28_11) gv n14 0 k25_174 n26 d_8  H.size h14 rfl rfl h26 rfl (by omega) (by omega) (by omega) (by omega) (by omega)) (cwV 0 hts gX9_either_X9_test_ rfl rfl rfl (by decide +kernel) ⟨Nat.le_of_ble_eq_true rfl, Nat.le_of_ble_eq_true rfl⟩) ⟨fun a U g mk q => by obtain ⟨q0, q1, qP, qK, qD⟩ := q; exact ⟨q0, q1, qP, va_K.moved (u := U) (U := U.calling g mk a) (Vm.Alike.refl U.vm) qK, qD⟩, va_recv hK hP (ci := 9) (q0 := 0) rfl rfl, fun U hU hW => ⟨rfl, by rw [hU], by rw [hU]; exact hP, va_K.moved hW.alike hK, hD.weaken (fun _ _ _ _ => trivial)⟩⟩ rfl rfl hl.1 rfl (lv_room (Nat.le_of_ble_eq_true rfl)) dX9_either_81 ⟨Nat.le_of_ble_eq_true rfl, Nat.le_of_ble_eq_true rfl⟩) hS (fun q _ h => hFc q h) hFc (fun u t H1 locs ht hvm w_453 hB hz1 hk1 hS => ?_)
    obtain ⟨k21_454, p22_455, k25_456, k30_457, f19_458, q_459, q_460, q_461, q_462, hP1, hK1, hD1⟩ := hB
    replace q_462 : (1 ≤ k21_454 ∧ k30_457 = d_8 ∧ f19_458 = (f19_10)) ∨ (k21_454 = 0 ∧ k30_457 = d_8 + 4 ∧ k25_174 + 8 ≤ k25_456 ∧ (∀ i : Nat, i < 200 * n14 + d_8 → f19_458 i = (f19_10) i) ∧ f19_458 (200 * n14 + d_8) = 13 ∧ okT (f19_458 (200 * n14 + (d_8 + 1)))) := q_462
    rw [ht] at hP1
    have hK := va_K.moved hvm.symm hK1
    generalize H1 = H at hP1 hS ⊢
    have hP : va_P D vwCl (mw h0 ad cs (upd (upd (upd (upd (upd (upd iv 21 (nI k21_454)) 22 p22_455) 25 (nI k25_456)) 29 (nI p_7)) 30 (nI k30_457)) 31 (nI q_9)) (uF (uF fv 19 f19_458) 28 f28_11) gv) H := hP1
    have hD : va_D A (mw h0 ad cs (upd (upd (upd (upd (upd (upd iv 21 (nI k21_454)) 22 p22_455) 25 (nI k25_456)) 29 (nI p_7)) 30 (nI k30_457)) 31 (nI q_9)) (uF (uF fv 19 f19_458) 28 f28_11) gv) := hD1.weaken (fun _ _ _ h => hFc _ h)
    rcases q_462 with ⟨hpos_463, e30_464, e19_465⟩ | ⟨rfl, e30_464, h8_466, hfr_467, h13_468, hok_469⟩
    · have hfr_470 : ∀ i : Nat, i < 200 * n14 → f19_458 i = fv 19 i := fun i h9 => by rw [e19_465]; exact hfr_26 i h9
      refine lv_aload_n hx hb dX9_either_84 rfl (lv_at hl 4 rfl) ?_
      have hFc := free_all hD hS hA
      refine va_callv (va_runV (As := []) (rest := []) ⟨hx, hb, hml, hown, hts⟩ (m_nots l D h0 ad cs (upd (upd (upd (upd (upd (upd iv 21 (nI k21_454)) 22 p22_455) 25 (nI k25_456)) 29 (nI p_7)) 30 (nI k30_457)) 31 (nI q_9)) (uF (uF fv 19 f19_458) 28 f28_11) gv n14 p_7 k30_457 q_9 x_12 y_13 j_14 k_15 H.size h14 rfl rfl rfl (by omega) hp_22 (by omega) (by omega) (by omega)) (cwV 0 hts gX9_either_X9_nots rfl rfl rfl (by decide +kernel) ⟨Nat.le_of_ble_eq_true rfl, Nat.le_of_ble_eq_true rfl⟩) ⟨fun a U g mk q => by obtain ⟨q0, q1, qP, qK, qD⟩ := q; exact ⟨q0, q1, qP, va_K.moved (u := U) (U := U.calling g mk a) (Vm.Alike.refl U.vm) qK, qD⟩, va_recv hK hP (ci := 9) (q0 := 0) rfl rfl, fun U hU hW => ⟨rfl, by rw [hU], by rw [hU]; exact hP, va_K.moved hW.alike hK, hD.weaken (fun _ _ _ _ => trivial)⟩⟩ rfl rfl hl.1 rfl (lv_room (Nat.le_of_ble_eq_true rfl)) dX9_either_85 ⟨Nat.le_of_ble_eq_true rfl, Nat.le_of_ble_eq_true rfl⟩) hS (fun q _ h => hFc q h) hFc (fun u t H1 locs ht hvm w_472 hB hz1 hk1 hS => ?_)
      obtain ⟨k29_473, k30_474, k31_475, f19_476, gx2_477, gk2_478, q_479, q_480, q_481, q_482, q_483, q_484, hP1, hK1, hD1⟩ := hB
      replace q_479 : pil ((f28_11)) k29_473 gx2_477 y_13 j_14 gk2_478 := q_479
      replace q_483 : ∀ i : Nat, i < 200 * n14 → f19_476 i = (f19_458) i := q_483
      replace q_484 : ∀ n : Nat, 1 ≤ n → wfs ((f19_458)) (200 * n14) k30_457 n → wfs f19_476 (200 * n14) k30_474 n := q_484
      rw [ht] at hP1
      have hK := va_K.moved hvm.symm hK1
      generalize H1 = H at hP1 hS ⊢
      have hP : va_P D vwCl (mw h0 ad cs (upd (upd (upd (upd (upd (upd iv 21 (nI k21_454)) 22 p22_455) 25 (nI k25_456)) 29 (nI k29_473)) 30 (nI k30_474)) 31 (nI k31_475)) (uF (uF fv 19 f19_476) 28 f28_11) gv) H := hP1
      have hD : va_D A (mw h0 ad cs (upd (upd (upd (upd (upd (upd iv 21 (nI k21_454)) 22 p22_455) 25 (nI k25_456)) 29 (nI k29_473)) 30 (nI k30_474)) 31 (nI k31_475)) (uF (uF fv 19 f19_476) 28 f28_11) gv) := hD1.weaken (fun _ _ _ h => hFc _ h)
      have hfr_485 : ∀ i : Nat, i < 200 * n14 → f19_476 i = fv 19 i := fun i h9 => (q_483 i h9).trans (hfr_470 i h9)
      refine lv_iconst (v := 0) hx hb dX9_either_88 (by decide) ?_
      refine lv_istore_n (lv' := [(1, .int 0), (4, .int (nI c_179)), (3, .int r_164), (2, .int (nI mo_3)), (0, .ref h0)]) hx hb dX9_either_89 rfl hl (by decide) rfl (fun ls hl => ?_)
      refine lv_goto (tgt := 202) hx hb dX9_either_90 (by decide) ?_
      refine lv_goto (tgt := 19) hx hb dX9_either_202 (by decide) ?_
      exact ih_1 (0, mo_3, k25_456, k21_454, p22_455, k29_473, k30_474, k31_475, f19_476, f28_11, gx2_477, y_13, j_14, gk2_478) (mw h0 ad cs (upd (upd (upd (upd (upd (upd iv 21 (nI k21_454)) 22 p22_455) 25 (nI k25_456)) 29 (nI k29_473)) 30 (nI k30_474)) 31 (nI k31_475)) (uF (uF fv 19 f19_476) 28 f28_11) gv) _ _ ls (by show 2 * (n26 - k25_456) + mo_3 + (1 - k21_454) < 2 * (n26 - a_4) + mo_3 + (1 - (0)); omega) ⟨rfl, (show 0 ≤ 1 from by omega), (show mo_3 ≤ 1 from by omega), (show 1 ≤ mo_3 ∨ 0 = 0 from by omega), (show k25_456 ≤ n26 from by omega), (show 2 * (k30_474 + j_14 + gx2_477) ≤ k25_456 from by omega), (show k21_454 ≤ 3 from by omega), (show pil f28_11 k29_473 gx2_477 y_13 j_14 gk2_478 from q_479), (show k31_475 = gx2_477 + y_13 from by omega), (show gx2_477 + y_13 ≤ 6 from by omega), (show 1 ≤ k21_454 ∨ wfs f19_476 (200 * n14) k30_474 (j_14 + (1 - 0)) from Or.inl (by omega)), (show ∀ i : Nat, i < 200 * n14 → f19_476 i = fv 19 i from hfr_485)⟩ hP hD hS (lv_sub hl [0, 3, 4] rfl)
    have hw_486 : wfs f19_458 (200 * n14) k30_457 (j_14 + 1) := by rw [e30_464]; exact (hw_163).tei hfr_467 h13_468 hok_469
    have hfr_487 : ∀ i : Nat, i < 200 * n14 → f19_458 i = fv 19 i := fun i h9 => (hfr_467 i (by omega)).trans (hfr_26 i h9)
    refine lv_aload_n hx hb dX9_either_84 rfl (lv_at hl 4 rfl) ?_
    have hFc := free_all hD hS hA
    refine va_callv (va_runV (As := []) (rest := []) ⟨hx, hb, hml, hown, hts⟩ (m_nots l D h0 ad cs (upd (upd (upd (upd (upd (upd iv 21 (nI 0)) 22 p22_455) 25 (nI k25_456)) 29 (nI p_7)) 30 (nI k30_457)) 31 (nI q_9)) (uF (uF fv 19 f19_458) 28 f28_11) gv n14 p_7 k30_457 q_9 x_12 y_13 j_14 k_15 H.size h14 rfl rfl rfl (by omega) hp_22 (by omega) (by omega) (by omega)) (cwV 0 hts gX9_either_X9_nots rfl rfl rfl (by decide +kernel) ⟨Nat.le_of_ble_eq_true rfl, Nat.le_of_ble_eq_true rfl⟩) ⟨fun a U g mk q => by obtain ⟨q0, q1, qP, qK, qD⟩ := q; exact ⟨q0, q1, qP, va_K.moved (u := U) (U := U.calling g mk a) (Vm.Alike.refl U.vm) qK, qD⟩, va_recv hK hP (ci := 9) (q0 := 0) rfl rfl, fun U hU hW => ⟨rfl, by rw [hU], by rw [hU]; exact hP, va_K.moved hW.alike hK, hD.weaken (fun _ _ _ _ => trivial)⟩⟩ rfl rfl hl.1 rfl (lv_room (Nat.le_of_ble_eq_true rfl)) dX9_either_85 ⟨Nat.le_of_ble_eq_true rfl, Nat.le_of_ble_eq_true rfl⟩) hS (fun q _ h => hFc q h) hFc (fun u t H1 locs ht hvm w_489 hB hz1 hk1 hS => ?_)
    obtain ⟨k29_490, k30_491, k31_492, f19_493, gx2_494, gk2_495, q_496, q_497, q_498, q_499, q_500, q_501, hP1, hK1, hD1⟩ := hB
    replace q_496 : pil ((f28_11)) k29_490 gx2_494 y_13 j_14 gk2_495 := q_496
    replace q_500 : ∀ i : Nat, i < 200 * n14 → f19_493 i = (f19_458) i := q_500
    replace q_501 : ∀ n : Nat, 1 ≤ n → wfs ((f19_458)) (200 * n14) k30_457 n → wfs f19_493 (200 * n14) k30_491 n := q_501
    rw [ht] at hP1
    have hK := va_K.moved hvm.symm hK1
    generalize H1 = H at hP1 hS ⊢
    have hP : va_P D vwCl (mw h0 ad cs (upd (upd (upd (upd (upd (upd iv 21 (nI 0)) 22 p22_455) 25 (nI k25_456)) 29 (nI k29_490)) 30 (nI k30_491)) 31 (nI k31_492)) (uF (uF fv 19 f19_493) 28 f28_11) gv) H := hP1
    have hD : va_D A (mw h0 ad cs (upd (upd (upd (upd (upd (upd iv 21 (nI 0)) 22 p22_455) 25 (nI k25_456)) 29 (nI k29_490)) 30 (nI k30_491)) 31 (nI k31_492)) (uF (uF fv 19 f19_493) 28 f28_11) gv) := hD1.weaken (fun _ _ _ h => hFc _ h)
    have hfr_502 : ∀ i : Nat, i < 200 * n14 → f19_493 i = fv 19 i := fun i h9 => (q_500 i h9).trans (hfr_487 i h9)
    refine lv_iconst (v := 0) hx hb dX9_either_88 (by decide) ?_
    refine lv_istore_n (lv' := [(1, .int 0), (4, .int (nI c_179)), (3, .int r_164), (2, .int (nI mo_3)), (0, .ref h0)]) hx hb dX9_either_89 rfl hl (by decide) rfl (fun ls hl => ?_)
    refine lv_goto (tgt := 202) hx hb dX9_either_90 (by decide) ?_
    refine lv_goto (tgt := 19) hx hb dX9_either_202 (by decide) ?_
    exact ih_1 (0, mo_3, k25_456, 0, p22_455, k29_490, k30_491, k31_492, f19_493, f28_11, gx2_494, y_13, j_14, gk2_495) (mw h0 ad cs (upd (upd (upd (upd (upd (upd iv 21 (nI 0)) 22 p22_455) 25 (nI k25_456)) 29 (nI k29_490)) 30 (nI k30_491)) 31 (nI k31_492)) (uF (uF fv 19 f19_493) 28 f28_11) gv) _ _ ls (by show 2 * (n26 - k25_456) + mo_3 + (1 - 0) < 2 * (n26 - a_4) + mo_3 + (1 - (0)); omega) ⟨rfl, (show 0 ≤ 1 from by omega), (show mo_3 ≤ 1 from by omega), (show 1 ≤ mo_3 ∨ 0 = 0 from by omega), (show k25_456 ≤ n26 from by omega), (show 2 * (k30_491 + j_14 + gx2_494) ≤ k25_456 from by omega), (show 0 ≤ 3 from by omega), (show pil f28_11 k29_490 gx2_494 y_13 j_14 gk2_495 from q_496), (show k31_492 = gx2_494 + y_13 from by omega), (show gx2_494 + y_13 ≤ 6 from by omega), (show 1 ≤ 0 ∨ wfs f19_493 (200 * n14) k30_491 (j_14 + (1 - 0)) from Or.inr (q_501 _ (by omega) hw_486)), (show ∀ i : Nat, i < 200 * n14 → f19_493 i = fv 19 i from hfr_502)⟩ hP hD hS (lv_sub hl [0, 3, 4] rfl)
  have d_503 := n_eq (a := c_179) (b := 3) (by omega) (by omega) c_449
  refine lv_aload_n hx hb dX9_either_57 rfl (lv_at hl 4 rfl) ?_
  refine lv_iload_n hx hb dX9_either_58 rfl (lv_at hl 1 rfl) ?_
  refine lv_bipush (v := 40) hx hb dX9_either_59 (by decide) ?_
  refine lv_icmp_ne (tgt := 69) hx hb dX9_either_61 (by decide) (fun c_504 => ?_) (fun c_504 => absurd c_504 (c_423))
  refine lv_iconst (v := 3) hx hb dX9_either_69 (by decide) ?_
  have hFc := free_all hD hS hA
  refine va_callv (va_runV (As := [.int 3]) (rest := []) ⟨hx, hb, hml, hown, hts⟩ (m_opens l D h0 ad cs (upd (upd (upd (upd (upd (upd iv 21 (nI (0))) 22 p22_6) 25 (nI k25_174)) 29 (nI p_7)) 30 (nI d_8)) 31 (nI q_9)) (uF (uF fv 19 f19_10) 28 f28_11) gv 0 k25_174 n26 p_7 q_9 3 x_12 y_13 j_14 k_15 H.size rfl rfl h26 rfl rfl (by omega) (by omega) (by omega) hp_22 (by omega) (by omega) (Or.inr ⟨rfl, by rw [show k25_174 + 3 = e_180 by omega]; exact he_181⟩)) (cwV 1 hts gX9_either_X9_opens rfl rfl rfl (by decide +kernel) ⟨Nat.le_of_ble_eq_true rfl, Nat.le_of_ble_eq_true rfl⟩) ⟨fun a U g mk q => by obtain ⟨q0, q1, qP, qK, qD⟩ := q; exact ⟨q0, q1, qP, va_K.moved (u := U) (U := U.calling g mk a) (Vm.Alike.refl U.vm) qK, qD⟩, va_recv hK hP (ci := 9) (q0 := 0) rfl rfl, fun U hU hW => ⟨rfl, by rw [hU], by rw [hU]; exact hP, va_K.moved hW.alike hK, hD.weaken (fun _ _ _ _ => trivial)⟩⟩ rfl rfl hl.1 rfl (lv_room (Nat.le_of_ble_eq_true rfl)) dX9_either_70 ⟨Nat.le_of_ble_eq_true rfl, Nat.le_of_ble_eq_true rfl⟩) hS (fun q _ h => hFc q h) hFc (fun u t H1 locs ht hvm w_506 hB hz1 hk1 hS => ?_)
  obtain ⟨k21_507, p22_508, k25_509, k29_510, k31_511, f28_512, q_513, q_514, hP1, hK1, hD1⟩ := hB
  replace q_514 : (1 ≤ k21_507 ∧ k25_509 = k25_174 ∧ k29_510 = p_7 ∧ k31_511 = q_9 ∧ f28_512 = (f28_11)) ∨ (k21_507 = 0 ∧ k25_174 + 1 ≤ k25_509 ∧ k25_509 ≤ n26 ∧ k31_511 = q_9 + 1 ∧ q_9 ≤ 5 ∧ ∃ x y : Nat, x + y = x_12 + y_13 + 1 ∧ (x = x_12 ∨ (x = x_12 + 1 ∧ k25_174 + 3 ≤ k25_509)) ∧ pil f28_512 k29_510 x y j_14 0) := q_514
  rw [ht] at hP1
  have hK := va_K.moved hvm.symm hK1
  generalize H1 = H at hP1 hS ⊢
  have hP : va_P D vwCl (mw h0 ad cs (upd (upd (upd (upd (upd (upd iv 21 (nI k21_507)) 22 p22_508) 25 (nI k25_509)) 29 (nI k29_510)) 30 (nI d_8)) 31 (nI k31_511)) (uF (uF fv 19 f19_10) 28 f28_512) gv) H := hP1
  have hD : va_D A (mw h0 ad cs (upd (upd (upd (upd (upd (upd iv 21 (nI k21_507)) 22 p22_508) 25 (nI k25_509)) 29 (nI k29_510)) 30 (nI d_8)) 31 (nI k31_511)) (uF (uF fv 19 f19_10) 28 f28_512) gv) := hD1.weaken (fun _ _ _ h => hFc _ h)
  rcases q_514 with ⟨hpos_515, e25_516, e29_517, e31_518, e28_519⟩ | ⟨rfl, h1_520, h2_521, h3_522, h5_523, x_524, y_525, hxy_526, hx3_527, hp_528⟩
  · refine lv_goto (tgt := 202) hx hb dX9_either_73 (by decide) ?_
    refine lv_goto (tgt := 19) hx hb dX9_either_202 (by decide) ?_
    exact ih_1 (1, mo_3, k25_509, k21_507, p22_508, k29_510, d_8, k31_511, f19_10, f28_512, x_12, y_13, j_14, k_15) (mw h0 ad cs (upd (upd (upd (upd (upd (upd iv 21 (nI k21_507)) 22 p22_508) 25 (nI k25_509)) 29 (nI k29_510)) 30 (nI d_8)) 31 (nI k31_511)) (uF (uF fv 19 f19_10) 28 f28_512) gv) _ _ ls (by show 2 * (n26 - k25_509) + mo_3 + (1 - k21_507) < 2 * (n26 - a_4) + mo_3 + (1 - (0)); omega) ⟨rfl, (show 1 ≤ 1 from by omega), (show mo_3 ≤ 1 from by omega), (show 1 ≤ mo_3 ∨ 1 = 0 from by omega), (show k25_509 ≤ n26 from by omega), (show 2 * (d_8 + j_14 + x_12) ≤ k25_509 from by omega), (show k21_507 ≤ 3 from by omega), (show pil f28_512 k29_510 x_12 y_13 j_14 k_15 from (by rw [e28_519, e29_517]; exact hp_22)), (show k31_511 = x_12 + y_13 from by omega), (show x_12 + y_13 ≤ 6 from by omega), (show 1 ≤ k21_507 ∨ wfs f19_10 (200 * n14) d_8 (j_14 + (1 - 1)) from Or.inl (by omega)), (show ∀ i : Nat, i < 200 * n14 → f19_10 i = fv 19 i from hfr_26)⟩ hP hD hS (lv_sub hl [2, 3, 4] rfl)
  refine lv_goto (tgt := 202) hx hb dX9_either_73 (by decide) ?_
  refine lv_goto (tgt := 19) hx hb dX9_either_202 (by decide) ?_
  exact ih_1 (1, mo_3, k25_509, 0, p22_508, k29_510, d_8, k31_511, f19_10, f28_512, x_524, y_525, j_14, 0) (mw h0 ad cs (upd (upd (upd (upd (upd (upd iv 21 (nI 0)) 22 p22_508) 25 (nI k25_509)) 29 (nI k29_510)) 30 (nI d_8)) 31 (nI k31_511)) (uF (uF fv 19 f19_10) 28 f28_512) gv) _ _ ls (by show 2 * (n26 - k25_509) + mo_3 + (1 - 0) < 2 * (n26 - a_4) + mo_3 + (1 - (0)); omega) ⟨rfl, (show 1 ≤ 1 from by omega), (show mo_3 ≤ 1 from by omega), (show 1 ≤ mo_3 ∨ 1 = 0 from by omega), (show k25_509 ≤ n26 from by omega), (show 2 * (d_8 + j_14 + x_524) ≤ k25_509 from by omega), (show 0 ≤ 3 from by omega), (show pil f28_512 k29_510 x_524 y_525 j_14 0 from hp_528), (show k31_511 = x_524 + y_525 from by omega), (show x_524 + y_525 ≤ 6 from by omega), (show 1 ≤ 0 ∨ wfs f19_10 (200 * n14) d_8 (j_14 + (1 - 1)) from Or.inr hw_163), (show ∀ i : Nat, i < 200 * n14 → f19_10 i = fv 19 i from hfr_26)⟩ hP hD hS (lv_sub hl [2, 3, 4] rfl)
