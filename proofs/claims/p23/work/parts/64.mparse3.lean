theorem dX9_either_0 : decode cX9_either 0 = .ok (.aload_n 0, 1) := by decide +kernel
theorem dX9_either_1 : decode cX9_either 1 = .ok (.iconst 0, 1) := by decide +kernel
theorem dX9_either_2 : decode cX9_either 2 = .ok (.putfield 99, 3) := by decide +kernel
theorem dX9_either_5 : decode cX9_either 5 = .ok (.aload_n 0, 1) := by decide +kernel
theorem dX9_either_6 : decode cX9_either 6 = .ok (.iconst 0, 1) := by decide +kernel
theorem dX9_either_7 : decode cX9_either 7 = .ok (.putfield 102, 3) := by decide +kernel
theorem dX9_either_10 : decode cX9_either 10 = .ok (.aload_n 0, 1) := by decide +kernel
theorem dX9_either_11 : decode cX9_either 11 = .ok (.iconst 0, 1) := by decide +kernel
theorem dX9_either_12 : decode cX9_either 12 = .ok (.putfield 105, 3) := by decide +kernel
theorem dX9_either_15 : decode cX9_either 15 = .ok (.iconst 1, 1) := by decide +kernel
theorem dX9_either_16 : decode cX9_either 16 = .ok (.istore_n 1, 1) := by decide +kernel
theorem dX9_either_17 : decode cX9_either 17 = .ok (.iconst 1, 1) := by decide +kernel
theorem dX9_either_18 : decode cX9_either 18 = .ok (.istore_n 2, 1) := by decide +kernel
theorem dX9_either_19 : decode cX9_either 19 = .ok (.iload_n 2, 1) := by decide +kernel
theorem dX9_either_20 : decode cX9_either 20 = .ok (.ifCond .eq 185, 3) := by decide +kernel
theorem dX9_either_23 : decode cX9_either 23 = .ok (.aload_n 0, 1) := by decide +kernel
theorem dX9_either_24 : decode cX9_either 24 = .ok (.getfield 74, 3) := by decide +kernel
theorem dX9_either_27 : decode cX9_either 27 = .ok (.ifCond .ne 178, 3) := by decide +kernel
theorem dX9_either_30 : decode cX9_either 30 = .ok (.aload_n 0, 1) := by decide +kernel
theorem dX9_either_31 : decode cX9_either 31 = .ok (.invokevirtual 191, 3) := by decide +kernel
theorem dX9_either_34 : decode cX9_either 34 = .ok (.istore_n 3, 1) := by decide +kernel
theorem dX9_either_35 : decode cX9_either 35 = .ok (.aload_n 0, 1) := by decide +kernel
theorem dX9_either_36 : decode cX9_either 36 = .ok (.invokevirtual 238, 3) := by decide +kernel
theorem dX9_either_39 : decode cX9_either 39 = .ok (.istore 4, 2) := by decide +kernel
theorem dX9_either_41 : decode cX9_either 41 = .ok (.iload_n 1, 1) := by decide +kernel
theorem dX9_either_42 : decode cX9_either 42 = .ok (.ifCond .eq 34, 3) := by decide +kernel
theorem dX9_either_45 : decode cX9_either 45 = .ok (.iload_n 3, 1) := by decide +kernel
theorem dX9_either_46 : decode cX9_either 46 = .ok (.bipush 40, 2) := by decide +kernel
theorem dX9_either_48 : decode cX9_either 48 = .ok (.if_icmp .eq 9, 3) := by decide +kernel
theorem dX9_either_51 : decode cX9_either 51 = .ok (.iload 4, 2) := by decide +kernel
theorem dX9_either_53 : decode cX9_either 53 = .ok (.iconst 3, 1) := by decide +kernel
theorem dX9_either_54 : decode cX9_either 54 = .ok (.if_icmp .ne 22, 3) := by decide +kernel
theorem dX9_either_57 : decode cX9_either 57 = .ok (.aload_n 0, 1) := by decide +kernel
theorem dX9_either_58 : decode cX9_either 58 = .ok (.iload_n 3, 1) := by decide +kernel
theorem dX9_either_59 : decode cX9_either 59 = .ok (.bipush 40, 2) := by decide +kernel
theorem dX9_either_61 : decode cX9_either 61 = .ok (.if_icmp .ne 8, 3) := by decide +kernel
theorem dX9_either_64 : decode cX9_either 64 = .ok (.bipush 12, 2) := by decide +kernel
theorem dX9_either_66 : decode cX9_either 66 = .ok (.goto 4, 3) := by decide +kernel
theorem dX9_either_69 : decode cX9_either 69 = .ok (.iconst 3, 1) := by decide +kernel
theorem dX9_either_70 : decode cX9_either 70 = .ok (.invokevirtual 247, 3) := by decide +kernel
theorem dX9_either_73 : decode cX9_either 73 = .ok (.goto 129, 3) := by decide +kernel
theorem dX9_either_76 : decode cX9_either 76 = .ok (.iload_n 1, 1) := by decide +kernel
theorem dX9_either_77 : decode cX9_either 77 = .ok (.ifCond .eq 16, 3) := by decide +kernel
theorem dX9_either_80 : decode cX9_either 80 = .ok (.aload_n 0, 1) := by decide +kernel
theorem dX9_either_81 : decode cX9_either 81 = .ok (.invokevirtual 250, 3) := by decide +kernel
theorem dX9_either_84 : decode cX9_either 84 = .ok (.aload_n 0, 1) := by decide +kernel
theorem dX9_either_85 : decode cX9_either 85 = .ok (.invokevirtual 253, 3) := by decide +kernel
theorem dX9_either_88 : decode cX9_either 88 = .ok (.iconst 0, 1) := by decide +kernel
theorem dX9_either_89 : decode cX9_either 89 = .ok (.istore_n 1, 1) := by decide +kernel
theorem dX9_either_90 : decode cX9_either 90 = .ok (.goto 112, 3) := by decide +kernel
theorem dX9_either_93 : decode cX9_either 93 = .ok (.iload 4, 2) := by decide +kernel
theorem dX9_either_95 : decode cX9_either 95 = .ok (.iconst 2, 1) := by decide +kernel
theorem dX9_either_96 : decode cX9_either 96 = .ok (.if_icmp .eq 9, 3) := by decide +kernel
theorem dX9_either_99 : decode cX9_either 99 = .ok (.iload 4, 2) := by decide +kernel
theorem dX9_either_101 : decode cX9_either 101 = .ok (.iconst 1, 1) := by decide +kernel
theorem dX9_either_102 : decode cX9_either 102 = .ok (.if_icmp .ne 43, 3) := by decide +kernel
theorem dX9_either_105 : decode cX9_either 105 = .ok (.aload_n 0, 1) := by decide +kernel
theorem dX9_either_106 : decode cX9_either 106 = .ok (.iload 4, 2) := by decide +kernel
theorem dX9_either_108 : decode cX9_either 108 = .ok (.invokevirtual 256, 3) := by decide +kernel
theorem dX9_either_111 : decode cX9_either 111 = .ok (.aload_n 0, 1) := by decide +kernel
theorem dX9_either_112 : decode cX9_either 112 = .ok (.getfield 96, 3) := by decide +kernel
theorem dX9_either_115 : decode cX9_either 115 = .ok (.aload_n 0, 1) := by decide +kernel
theorem dX9_either_116 : decode cX9_either 116 = .ok (.getfield 99, 3) := by decide +kernel
theorem dX9_either_119 : decode cX9_either 119 = .ok (.iload 4, 2) := by decide +kernel
theorem dX9_either_121 : decode cX9_either 121 = .ok (.iastore, 1) := by decide +kernel
theorem dX9_either_122 : decode cX9_either 122 = .ok (.aload_n 0, 1) := by decide +kernel
theorem dX9_either_123 : decode cX9_either 123 = .ok (.dup, 1) := by decide +kernel
theorem dX9_either_124 : decode cX9_either 124 = .ok (.getfield 99, 3) := by decide +kernel
theorem dX9_either_127 : decode cX9_either 127 = .ok (.iconst 1, 1) := by decide +kernel
theorem dX9_either_128 : decode cX9_either 128 = .ok (.iadd, 1) := by decide +kernel
theorem dX9_either_129 : decode cX9_either 129 = .ok (.putfield 99, 3) := by decide +kernel
theorem dX9_either_132 : decode cX9_either 132 = .ok (.aload_n 0, 1) := by decide +kernel
theorem dX9_either_133 : decode cX9_either 133 = .ok (.aload_n 0, 1) := by decide +kernel
theorem dX9_either_134 : decode cX9_either 134 = .ok (.invokevirtual 229, 3) := by decide +kernel
theorem dX9_either_137 : decode cX9_either 137 = .ok (.putfield 87, 3) := by decide +kernel
theorem dX9_either_140 : decode cX9_either 140 = .ok (.iconst 1, 1) := by decide +kernel
theorem dX9_either_141 : decode cX9_either 141 = .ok (.istore_n 1, 1) := by decide +kernel
theorem dX9_either_142 : decode cX9_either 142 = .ok (.goto 60, 3) := by decide +kernel
theorem dX9_either_145 : decode cX9_either 145 = .ok (.iload_n 3, 1) := by decide +kernel
theorem dX9_either_146 : decode cX9_either 146 = .ok (.bipush 41, 2) := by decide +kernel
theorem dX9_either_148 : decode cX9_either 148 = .ok (.if_icmp .ne 52, 3) := by decide +kernel
theorem dX9_either_151 : decode cX9_either 151 = .ok (.aload_n 0, 1) := by decide +kernel
theorem dX9_either_152 : decode cX9_either 152 = .ok (.invokevirtual 259, 3) := by decide +kernel
theorem dX9_either_155 : decode cX9_either 155 = .ok (.ifCond .le 45, 3) := by decide +kernel
theorem dX9_either_158 : decode cX9_either 158 = .ok (.aload_n 0, 1) := by decide +kernel
theorem dX9_either_159 : decode cX9_either 159 = .ok (.iconst 1, 1) := by decide +kernel
theorem dX9_either_160 : decode cX9_either 160 = .ok (.invokevirtual 256, 3) := by decide +kernel
theorem dX9_either_163 : decode cX9_either 163 = .ok (.aload_n 0, 1) := by decide +kernel
theorem dX9_either_164 : decode cX9_either 164 = .ok (.dup, 1) := by decide +kernel
theorem dX9_either_165 : decode cX9_either 165 = .ok (.getfield 99, 3) := by decide +kernel
theorem dX9_either_168 : decode cX9_either 168 = .ok (.iconst 1, 1) := by decide +kernel
theorem dX9_either_169 : decode cX9_either 169 = .ok (.isub, 1) := by decide +kernel
theorem dX9_either_170 : decode cX9_either 170 = .ok (.putfield 99, 3) := by decide +kernel
theorem dX9_either_173 : decode cX9_either 173 = .ok (.aload_n 0, 1) := by decide +kernel
theorem dX9_either_174 : decode cX9_either 174 = .ok (.dup, 1) := by decide +kernel
theorem dX9_either_175 : decode cX9_either 175 = .ok (.getfield 105, 3) := by decide +kernel
theorem dX9_either_178 : decode cX9_either 178 = .ok (.iconst 1, 1) := by decide +kernel
theorem dX9_either_179 : decode cX9_either 179 = .ok (.isub, 1) := by decide +kernel
theorem dX9_either_180 : decode cX9_either 180 = .ok (.putfield 105, 3) := by decide +kernel
theorem dX9_either_183 : decode cX9_either 183 = .ok (.aload_n 0, 1) := by decide +kernel
theorem dX9_either_184 : decode cX9_either 184 = .ok (.dup, 1) := by decide +kernel
theorem dX9_either_185 : decode cX9_either 185 = .ok (.getfield 87, 3) := by decide +kernel
theorem dX9_either_188 : decode cX9_either 188 = .ok (.iconst 1, 1) := by decide +kernel
theorem dX9_either_189 : decode cX9_either 189 = .ok (.iadd, 1) := by decide +kernel
theorem dX9_either_190 : decode cX9_either 190 = .ok (.putfield 87, 3) := by decide +kernel
theorem dX9_either_193 : decode cX9_either 193 = .ok (.aload_n 0, 1) := by decide +kernel
theorem dX9_either_194 : decode cX9_either 194 = .ok (.invokevirtual 253, 3) := by decide +kernel
theorem dX9_either_197 : decode cX9_either 197 = .ok (.goto 5, 3) := by decide +kernel
theorem dX9_either_200 : decode cX9_either 200 = .ok (.iconst 0, 1) := by decide +kernel
theorem dX9_either_201 : decode cX9_either 201 = .ok (.istore_n 2, 1) := by decide +kernel
theorem dX9_either_202 : decode cX9_either 202 = .ok (.goto (-183), 3) := by decide +kernel
theorem dX9_either_205 : decode cX9_either 205 = .ok (.aload_n 0, 1) := by decide +kernel
theorem dX9_either_206 : decode cX9_either 206 = .ok (.getfield 74, 3) := by decide +kernel
theorem dX9_either_209 : decode cX9_either 209 = .ok (.ifCond .ne 19, 3) := by decide +kernel
theorem dX9_either_212 : decode cX9_either 212 = .ok (.aload_n 0, 1) := by decide +kernel
theorem dX9_either_213 : decode cX9_either 213 = .ok (.invokevirtual 259, 3) := by decide +kernel
theorem dX9_either_216 : decode cX9_either 216 = .ok (.ifCond .le 12, 3) := by decide +kernel
theorem dX9_either_219 : decode cX9_either 219 = .ok (.aload_n 0, 1) := by decide +kernel
theorem dX9_either_220 : decode cX9_either 220 = .ok (.iconst 1, 1) := by decide +kernel
theorem dX9_either_221 : decode cX9_either 221 = .ok (.aload_n 0, 1) := by decide +kernel
theorem dX9_either_222 : decode cX9_either 222 = .ok (.getfield 87, 3) := by decide +kernel
theorem dX9_either_225 : decode cX9_either 225 = .ok (.invokevirtual 195, 3) := by decide +kernel
theorem dX9_either_228 : decode cX9_either 228 = .ok (.aload_n 0, 1) := by decide +kernel
theorem dX9_either_229 : decode cX9_either 229 = .ok (.iconst 1, 1) := by decide +kernel
theorem dX9_either_230 : decode cX9_either 230 = .ok (.invokevirtual 256, 3) := by decide +kernel
theorem dX9_either_233 : decode cX9_either 233 = .ok (.return_, 1) := by decide +kernel
set_option maxRecDepth 20000 in
theorem ggX9_either_X9_joins : GoodIn wsX9_either wsX9_joins := goodIn_r _ [78, 1, 5, 65, 66, 67, 10, 68, 69, 70, 2, 83, 84, 85, 86, 87, 88, 89, 90, 91, 92, 93, 94, 95, 96, 97, 98, 99, 100, 101, 102, 103, 104, 105, 106, 107, 108, 109, 110, 111, 112, 113, 114, 115, 116, 117, 118, 119, 120, 121, 122, 123, 124, 125, 126] rfl (by decide +kernel)
set_option maxRecDepth 20000 in
theorem gX9_either_X9_joins : GoodIn wsX9_either (wsV RX9 256 RX9 yX9_joins wsX9_joins) := goodIn_app (goodIn_of _ (by decide +kernel)) ggX9_either_X9_joins
set_option maxRecDepth 20000 in
theorem ggX9_either_X9_brackets : GoodIn wsX9_either wsX9_brackets := goodIn_r _ [82, 1, 5, 83, 84, 85, 86, 87, 88, 89, 90, 91, 92, 93, 94, 95, 96, 97, 98, 99, 100, 101, 102, 103, 104, 105, 106, 107, 108, 109, 110, 111, 112, 113, 114, 115, 116, 117, 118, 119, 120, 121, 122, 123, 124, 125, 126] rfl (by decide +kernel)
set_option maxRecDepth 20000 in
theorem gX9_either_X9_brackets : GoodIn wsX9_either (wsV RX9 259 RX9 yX9_brackets wsX9_brackets) := goodIn_app (goodIn_of _ (by decide +kernel)) ggX9_either_X9_brackets
set_option maxRecDepth 20000 in
theorem ggX9_either_X9_blame : GoodIn wsX9_either wsX9_blame := goodIn_r _ [52, 4, 53, 83, 84, 85, 86, 87, 88, 89, 90, 91, 92, 93, 94, 95, 96, 97, 98, 99, 100, 101, 102, 103, 104, 105, 106, 107, 108, 109, 110, 111, 112, 113, 114, 115, 116, 117, 118, 119, 120, 121, 122, 123, 124, 125, 126] rfl (by decide +kernel)
set_option maxRecDepth 20000 in
theorem gX9_either_X9_blame : GoodIn wsX9_either (wsV RX9 195 RX9 yX9_blame wsX9_blame) := goodIn_app (goodIn_of _ (by decide +kernel)) ggX9_either_X9_blame
set_option maxRecDepth 20000 in
theorem ggX9_either_X9_here : GoodIn wsX9_either wsX9_here := goodIn_r _ [11, 6, 12, 13, 83, 84, 85, 86, 87, 88, 89, 90, 91, 92, 93, 94, 95, 96, 97, 98, 99, 100, 101, 102, 103, 104, 105, 106, 107, 108, 109, 110, 111, 112, 113, 114, 115, 116, 117, 118, 119, 120, 121, 122, 123, 124, 125, 126] rfl (by decide +kernel)
set_option maxRecDepth 20000 in
theorem gX9_either_X9_here : GoodIn wsX9_either (wsV RX9 191 RX9 yX9_here wsX9_here) := goodIn_app (goodIn_of _ (by decide +kernel)) ggX9_either_X9_here
set_option maxRecDepth 20000 in
theorem ggX9_either_X9_peek : GoodIn wsX9_either wsX9_peek := goodIn_r _ [17, 7, 8, 9, 10, 11, 6, 12, 13, 18, 19, 20, 21, 22, 23, 24, 25, 26, 27, 28, 29, 30, 31, 32, 33, 34, 35, 36, 37, 38, 39, 40, 41, 42, 43, 44, 83, 84, 85, 86, 87, 88, 89, 90, 91, 92, 93, 94, 95, 96, 97, 98, 99, 100, 101, 102, 103, 104, 105, 106, 107, 108, 109, 110, 111, 112, 113, 114, 115, 116, 117, 118, 119, 120, 121, 122, 123, 124, 125, 126] rfl (by decide +kernel)
set_option maxRecDepth 20000 in
theorem gX9_either_X9_peek : GoodIn wsX9_either (wsV RX9 238 RX9 yX9_peek wsX9_peek) := goodIn_app (goodIn_of _ (by decide +kernel)) ggX9_either_X9_peek
set_option maxRecDepth 20000 in
theorem ggX9_either_X9_nots : GoodIn wsX9_either wsX9_nots := goodIn_r _ [74, 1, 5, 3, 65, 66, 67, 10, 68, 69, 70, 2, 83, 84, 85, 86, 87, 88, 89, 90, 91, 92, 93, 94, 95, 96, 97, 98, 99, 100, 101, 102, 103, 104, 105, 106, 107, 108, 109, 110, 111, 112, 113, 114, 115, 116, 117, 118, 119, 120, 121, 122, 123, 124, 125, 126] rfl (by decide +kernel)
set_option maxRecDepth 20000 in
theorem gX9_either_X9_nots : GoodIn wsX9_either (wsV RX9 253 RX9 yX9_nots wsX9_nots) := goodIn_app (goodIn_of _ (by decide +kernel)) ggX9_either_X9_nots
set_option maxRecDepth 20000 in
theorem ggX9_either_X9_opens : GoodIn wsX9_either wsX9_opens := goodIn_r _ [48, 3, 6, 4, 5, 1, 49, 50, 51, 10, 52, 53, 21, 22, 23, 24, 12, 13, 18, 19, 20, 83, 84, 85, 86, 87, 88, 89, 90, 91, 92, 93, 94, 95, 96, 97, 98, 99, 100, 101, 102, 103, 104, 105, 106, 107, 108, 109, 110, 111, 112, 113, 114, 115, 116, 117, 118, 119, 120, 121, 122, 123, 124, 125, 126] rfl (by decide +kernel)
set_option maxRecDepth 20000 in
theorem gX9_either_X9_opens : GoodIn wsX9_either (wsV RX9 247 RX9 yX9_opens wsX9_opens) := goodIn_app (goodIn_of _ (by decide +kernel)) ggX9_either_X9_opens
set_option maxRecDepth 20000 in
theorem ggX9_either_X9_test_ : GoodIn wsX9_either wsX9_test_ := goodIn_r _ [57, 6, 4, 14, 15, 16, 10, 17, 7, 8, 9, 11, 12, 13, 18, 19, 20, 21, 22, 23, 24, 25, 26, 27, 28, 29, 30, 31, 32, 33, 34, 35, 36, 37, 38, 39, 40, 41, 42, 43, 44, 49, 50, 51, 52, 53, 58, 59, 60, 61, 62, 63, 64, 65, 66, 67, 68, 69, 70, 2, 83, 84, 85, 86, 87, 88, 89, 90, 91, 92, 93, 94, 95, 96, 97, 98, 99, 100, 101, 102, 103, 104, 105, 106, 107, 108, 109, 110, 111, 112, 113, 114, 115, 116, 117, 118, 119, 120, 121, 122, 123, 124, 125, 126] rfl (by decide +kernel)
set_option maxRecDepth 20000 in
theorem gX9_either_X9_test_ : GoodIn wsX9_either (wsV RX9 250 RX9 yX9_test_ wsX9_test_) := goodIn_app (goodIn_of _ (by decide +kernel)) ggX9_either_X9_test_
set_option maxRecDepth 20000 in
theorem ggX9_either_X9_wordEnd : GoodIn wsX9_either wsX9_wordEnd := goodIn_r _ [24, 6, 12, 13, 18, 19, 10, 20, 83, 84, 85, 86, 87, 88, 89, 90, 91, 92, 93, 94, 95, 96, 97, 98, 99, 100, 101, 102, 103, 104, 105, 106, 107, 108, 109, 110, 111, 112, 113, 114, 115, 116, 117, 118, 119, 120, 121, 122, 123, 124, 125, 126] rfl (by decide +kernel)
set_option maxRecDepth 20000 in
theorem gX9_either_X9_wordEnd : GoodIn wsX9_either (wsV RX9 229 RX9 yX9_wordEnd wsX9_wordEnd) := goodIn_app (goodIn_of _ (by decide +kernel)) ggX9_either_X9_wordEnd
/-- a fault of kind k, at p, is come to -/
def rcF (f : Nat → Int32) (n : Nat) (s0 : S4) (k : Nat) (p : Int32) : Prop := ∃ P : Nat, p = nI P ∧ Rch f n s0 (10 + k, P, [], [])
/-- nothing of either goes on at a -/
def eiE (f : Nat → Int32) (n : Nat) (s0 : S4) (σ : List Nat) (T : List Tk) (a : Nat) : Prop := Rch f n s0 (1, a, σ, T) ∧ ¬ (wdE f n a = 1 ∨ wdE f n a = 2) ∧ ¬ ((a < n ∧ f a = 41) ∧ 0 < brk σ) ∧ skB f n a = a
/-- what either leaves behind -/
def EIF (f : Nat → Int32) (n : Nat) (s0 : S4) (k : Nat) (p : Int32) (a : Nat) (g : Nat → Int32) (z c : Nat) : Prop := (k = 0 ∧ ∃ T : List Tk, Rch f n s0 (2, skB f n a, [], T) ∧ cfr g (200 * z) T (200 * z + c)) ∨ (¬ k = 0 ∧ rcF f n s0 k p)
theorem eiE.no {f : Nat → Int32} {n a k : Nat} {p : Int32} {s0 : S4} {σ : List Nat} {T : List Tk} (h : eiE f n s0 σ T a) (hb : 0 < brk σ) (hk : k = 1 ∧ p = nI a) : rcF f n s0 k p := ⟨a, hk.2, by rw [hk.1]; exact h.1.st (st_left h.2.1 (fun q => h.2.2.1 ⟨q, hb⟩) hb)⟩
theorem eiE.ok {f g : Nat → Int32} {n a z c : Nat} {s0 : S4} {σ : List Nat} {T : List Tk} (h : eiE f n s0 σ T a) (hb : brk σ = 0) (hc : cfr g (200 * z) (T ++ eO σ) (200 * z + c)) : ∃ T' : List Tk, Rch f n s0 (2, skB f n a, [], T') ∧ cfr g (200 * z) T' (200 * z + c) := ⟨_, by rw [h.2.2.2]; exact h.1.st (st_end h.2.1 hb), hc⟩
theorem nx_4 {f : Nat → Int32} {n b a : Nat} (hk : kdF f n b = 4) (ha : a = b + 1) : skB f n a = nxF f n b := by rw [ha, nxF, teF_4 hk]
theorem nx_w {f : Nat → Int32} {n b a j : Nat} (hb : b ≤ n) (hj : j < 11) (hw : wdE f n b = j) (ha : a = b + (wl j).length) : skB f n a = nxF f n b := by rw [ha, nxF, wdE_te hb hj hw]
theorem nx_e {f : Nat → Int32} {n b a j : Nat} (hj : j < 11) (hw : wdE f n b = j) (ha : weL f n b = a) : skB f n a = nxF f n b := by rw [← ha, nxF, teF_1 (wdE_sp hj hw).2]
set_option maxHeartbeats 4000000 in
set_option maxRecDepth 100000 in
theorem m_either (l : Launch) (D : va_G) (h0 : Nat) (ad : Nat → Nat) (cs : Nat → ClassId) (iv : Nat → Int32) (fv : Nat → Nat → Int32) (gv : Nat → Int64) (n14 n21 n25 n26 : Nat)  (sz : Nat) (h14 : iv 14 = nI n14) (h21 : iv 21 = nI n21) (h25 : iv 25 = nI n25) (h26 : iv 26 = nI n26) (b15 : n14 ≤ 15) (z21 : n21 = 0) (b25 : n25 ≤ n26) (b26 : n26 ≤ 400) : Met l yX9_either wsX9_either ({ frames := 4, cells := 0, slots := 0, locals := 91 }) (va_Pc [.ref h0] (fun U => U.heap.size = sz ∧ va_P D vwCl (mw h0 ad cs iv fv gv) U.heap ∧ va_K D vwCl (mT cs) U ∧ va_D (fun _ => True) (mw h0 ad cs iv fv gv))) (va_Qv (fun _ : Unit => True) (fun (_ : Unit) (t : State) => ∃ (k21 : Nat) (p22 : Int32) (k25 : Nat) (k29 : Nat) (k30 : Nat) (k31 : Nat) (f19 : Nat → Int32) (f28 : Nat → Int32), (k21 ≤ 3) ∧ (k25 ≤ n26) ∧ (k30 ≤ 200) ∧ (∀ i : Nat, i < 200 * n14 → f19 i = fv 19 i) ∧ True ∧ (EIF (fv 0) n26 (0, skB (fv 0) n26 n25, [], []) k21 p22 k25 f19 n14 k30) ∧ (k21 = 0 → p22 = iv 22) ∧ va_P D vwCl (mw h0 ad cs (upd (upd (upd (upd (upd (upd iv 21 (nI k21)) 22 p22) 25 (nI k25)) 29 (nI k29)) 30 (nI k30)) 31 (nI k31)) (uF (uF fv 19 f19) 28 f28) gv) t.heap ∧ va_K D vwCl (mT cs) t ∧ va_D (va_A (mw h0 ad cs iv fv gv) sz) (mw h0 ad cs (upd (upd (upd (upd (upd (upd iv 21 (nI k21)) 22 p22) 25 (nI k25)) 29 (nI k29)) 30 (nI k30)) 31 (nI k31)) (uF (uF fv 19 f19) 28 f28) gv)) (va_A (mw h0 ad cs iv fv gv) sz)) 0 0 (va_A (mw h0 ad cs iv fv gv) sz) := by
  refine Met.ofW (cc := cX9_either) (maxL := 5) (ret := none) (by decide) rfl ?_
  intro p e s m args below meth c s₁ B hml hv
  obtain ⟨rfl, hsz, hP, hK, hD0⟩ := hv
  have hx := B.exec
  have hb := B.bytes
  have hr := B.returns
  have hts := atoms_spec (ws := wsX9_either) B.pre
  have hown : s.vm.findClass RX9 = some m.cls := findClass_of_methodNamed B.named
  have hlocks := B.notSynchronized
  subst hsz
  have hD := hD0.self (sz := s.heap.size)
  generalize hAe : va_A (mw h0 ad cs iv fv gv) s.heap.size = A at hD ⊢
  have hA : ∀ q : Nat, s.heap.size ≤ q → A q := fun q h => by rw [← hAe]; exact Or.inr h
  have hS : va_S A s.heap s.heap [] := va_S.rf
  have hin9 : ∀ w ∈ u_ws RX9 TX9 44, w ∈ wsX9_either := (fun _ h9 => List.mem_cons_of_mem _ ((List.mem_append_right _ h9)))
  have hl := lv_entry ([.ref h0]) (n := 5) (Nat.le_of_ble_eq_true rfl)
  rw [lg_entry_eq]
  generalize (lg_sl ([.ref h0]) ++ List.replicate (5 - (lg_sl ([.ref h0])).length) Slot.unset).toArray = ls at hl ⊢
  have hl : lv_has ls 5 [(0, .ref h0)] := hl
  refine lv_aload_n hx hb dX9_either_0 rfl (lv_at hl 0 rfl) ?_
  refine lv_iconst (v := 0) hx hb dX9_either_1 (by decide) ?_
  refine va_put (D := D) (ci := 9) (v := .int 0) (ty := .int) (C := RX9) (T := TX9) (N := 44) hx hb hts hin9 tyX9 tyX9_ok nmX9 hown hK hP hD hS 0 rfl rfl 29 (by decide) (hts (.fieldLink RX9 99 "HoneyHouseModel" "piled" "I") (List.mem_of_getElem? (i := 1) rfl)) (fun _ h9 => h9) rfl (tyX9_ok 29 (by decide)) rfl rfl (Nat.le_of_ble_eq_true rfl) dX9_either_2 (fun H locs hP hD hS => ?_)
  have hP : va_P D vwCl (mw h0 ad cs (upd iv 29 0) fv gv) H := hP
  have hD : va_D A (mw h0 ad cs (upd iv 29 0) fv gv) := hD
  refine lv_aload_n hx hb dX9_either_5 rfl (lv_at hl 0 rfl) ?_
  refine lv_iconst (v := 0) hx hb dX9_either_6 (by decide) ?_
  refine va_put (D := D) (ci := 9) (v := .int 0) (ty := .int) (C := RX9) (T := TX9) (N := 44) hx hb hts hin9 tyX9 tyX9_ok nmX9 hown hK hP hD hS 0 rfl rfl 30 (by decide) (hts (.fieldLink RX9 102 "HoneyHouseModel" "made" "I") (List.mem_of_getElem? (i := 2) rfl)) (fun _ h9 => h9) rfl (tyX9_ok 30 (by decide)) rfl rfl (Nat.le_of_ble_eq_true rfl) dX9_either_7 (fun H locs hP hD hS => ?_)
  have hP : va_P D vwCl (mw h0 ad cs (upd (upd iv 29 0) 30 0) fv gv) H := hP
  have hD : va_D A (mw h0 ad cs (upd (upd iv 29 0) 30 0) fv gv) := hD
  refine lv_aload_n hx hb dX9_either_10 rfl (lv_at hl 0 rfl) ?_
  refine lv_iconst (v := 0) hx hb dX9_either_11 (by decide) ?_
  refine va_put (D := D) (ci := 9) (v := .int 0) (ty := .int) (C := RX9) (T := TX9) (N := 44) hx hb hts hin9 tyX9 tyX9_ok nmX9 hown hK hP hD hS 0 rfl rfl 31 (by decide) (hts (.fieldLink RX9 105 "HoneyHouseModel" "deep" "I") (List.mem_of_getElem? (i := 3) rfl)) (fun _ h9 => h9) rfl (tyX9_ok 31 (by decide)) rfl rfl (Nat.le_of_ble_eq_true rfl) dX9_either_12 (fun H locs hP hD hS => ?_)
  have hP : va_P D vwCl (mw h0 ad cs (upd (upd (upd iv 29 0) 30 0) 31 0) fv gv) H := hP
  have hD : va_D A (mw h0 ad cs (upd (upd (upd iv 29 0) 30 0) 31 0) fv gv) := hD
  refine lv_iconst (v := 1) hx hb dX9_either_15 (by decide) ?_
  refine lv_istore_n (lv' := [(1, .int 1), (0, .ref h0)]) hx hb dX9_either_16 rfl hl (by decide) rfl (fun ls hl => ?_)
  refine lv_iconst (v := 1) hx hb dX9_either_17 (by decide) ?_
  refine lv_istore_n (lv' := [(2, .int 1), (1, .int 1), (0, .ref h0)]) hx hb dX9_either_18 rfl hl (by decide) rfl (fun ls hl => ?_)
  have hP : va_P D vwCl (mw h0 ad cs (upd (upd (upd (upd (upd iv 21 (iv 21)) 25 (iv 25)) 29 0) 30 0) 31 0) fv gv) H := hP
  have hD : va_D A (mw h0 ad cs (upd (upd (upd (upd (upd iv 21 (iv 21)) 25 (iv 25)) 29 0) 30 0) 31 0) fv gv) := hD
  rw [h25, h21] at hP hD
  refine lp_V (nL := 5) (σ := Nat × Nat × Nat × Nat × Int32 × Nat × Nat × Nat × (Nat → Int32) × (Nat → Int32) × Nat × Nat × Nat × Nat × (List Nat) × (List Tk)) (lv := fun x9 => [(1, .int (nI x9.1)), (2, .int (nI x9.2.1)), (0, .ref h0)]) (μ := fun x9 => 2 * (n26 - x9.2.2.1) + x9.2.1 + (1 - x9.2.2.2.1)) (J := fun x9 ws9 => ws9 = (mw h0 ad cs (upd (upd (upd (upd (upd (upd iv 21 (nI x9.2.2.2.1)) 22 x9.2.2.2.2.1) 25 (nI x9.2.2.1)) 29 (nI x9.2.2.2.2.2.1)) 30 (nI x9.2.2.2.2.2.2.1)) 31 (nI x9.2.2.2.2.2.2.2.1)) (uF (uF fv 19 x9.2.2.2.2.2.2.2.2.1) 28 x9.2.2.2.2.2.2.2.2.2.1) gv) ∧ (x9.1 ≤ 1) ∧ (x9.2.1 ≤ 1) ∧ (1 ≤ x9.2.1 ∨ x9.1 = 0) ∧ (x9.2.2.1 ≤ n26) ∧ (2 * (x9.2.2.2.2.2.2.1 + x9.2.2.2.2.2.2.2.2.2.2.2.2.1 + x9.2.2.2.2.2.2.2.2.2.2.1) ≤ x9.2.2.1) ∧ (x9.2.2.2.1 ≤ 3) ∧ (pil x9.2.2.2.2.2.2.2.2.2.1 x9.2.2.2.2.2.1 x9.2.2.2.2.2.2.2.2.2.2.1 x9.2.2.2.2.2.2.2.2.2.2.2.1 x9.2.2.2.2.2.2.2.2.2.2.2.2.1 x9.2.2.2.2.2.2.2.2.2.2.2.2.2.1) ∧ (x9.2.2.2.2.2.2.2.1 = x9.2.2.2.2.2.2.2.2.2.2.1 + x9.2.2.2.2.2.2.2.2.2.2.2.1) ∧ (x9.2.2.2.2.2.2.2.2.2.2.1 + x9.2.2.2.2.2.2.2.2.2.2.2.1 ≤ 6) ∧ (1 ≤ x9.2.2.2.1 ∨ cfr x9.2.2.2.2.2.2.2.2.1 (200 * n14) x9.2.2.2.2.2.2.2.2.2.2.2.2.2.2.2 (200 * n14 + x9.2.2.2.2.2.2.1)) ∧ (∀ i : Nat, i < 200 * n14 → x9.2.2.2.2.2.2.2.2.1 i = fv 19 i) ∧ (plS x9.2.2.2.2.2.2.2.2.2.1 x9.2.2.2.2.2.2.2.2.2.2.2.2.2.2.1) ∧ (x9.2.2.2.2.2.1 = x9.2.2.2.2.2.2.2.2.2.2.2.2.2.2.1.length) ∧ (x9.2.2.2.2.2.2.2.1 = dep x9.2.2.2.2.2.2.2.2.2.2.2.2.2.2.1) ∧ (x9.2.2.2.1 = 0 → x9.2.1 = 1 → Rch (fv 0) n26 (0, skB (fv 0) n26 n25, [], []) (1 - x9.1, skB (fv 0) n26 x9.2.2.1, x9.2.2.2.2.2.2.2.2.2.2.2.2.2.2.1, x9.2.2.2.2.2.2.2.2.2.2.2.2.2.2.2)) ∧ (¬ x9.2.2.2.1 = 0 → rcF (fv 0) n26 (0, skB (fv 0) n26 n25, [], []) x9.2.2.2.1 x9.2.2.2.2.1) ∧ (x9.2.1 = 0 → x9.2.2.2.1 = 0 → eiE (fv 0) n26 (0, skB (fv 0) n26 n25, [], []) x9.2.2.2.2.2.2.2.2.2.2.2.2.2.2.1 x9.2.2.2.2.2.2.2.2.2.2.2.2.2.2.2 x9.2.2.1) ∧ (x9.2.2.2.1 = 0 → x9.2.2.2.2.1 = iv 22)) (fun x9 ws9 H locs ls hj hP hD hS hl ih_1 => ?_) (1, 1, n25, n21, iv 22, 0, 0, 0, fv 19, fv 28, 0, 0, 0, 0, [], []) (mw h0 ad cs (upd (upd (upd (upd (upd iv 21 (nI n21)) 25 (nI n25)) 29 0) 30 0) 31 0) fv gv) _ _ ls ⟨rfl, (show 1 ≤ 1 from by omega), (show 1 ≤ 1 from by omega), (show 1 ≤ 1 ∨ 1 = 0 from by omega), (show n25 ≤ n26 from by omega), (show 2 * (0 + 0 + 0) ≤ n25 from by omega), (show n21 ≤ 3 from by omega), (show pil (fv 28) 0 0 0 0 0 from pil.nil), (show 0 = 0 + 0 from by omega), (show 0 + 0 ≤ 6 from by omega), (show 1 ≤ n21 ∨ cfr (fv 19) (200 * n14) ([]) (200 * n14 + 0) from Or.inr (show 200 * n14 = 200 * n14 + 0 by omega)), (show ∀ i : Nat, i < 200 * n14 → (fv 19) i = fv 19 i from fun i h9 => rfl), (show plS (fv 28) ([]) from trivial), (show 0 = ([]).length from rfl), (show 0 = dep ([]) from rfl), (show n21 = 0 → 1 = 1 → Rch (fv 0) n26 (0, skB (fv 0) n26 n25, [], []) (1 - 1, skB (fv 0) n26 n25, ([]), ([])) from fun _ _ => Rch.rf _), (show ¬ n21 = 0 → rcF (fv 0) n26 (0, skB (fv 0) n26 n25, [], []) n21 (iv 22) from fun h9 => by omega), (show 1 = 0 → n21 = 0 → eiE (fv 0) n26 (0, skB (fv 0) n26 n25, [], []) ([]) ([]) n25 from fun h9 => by omega), (show n21 = 0 → (iv 22) = iv 22 from fun _ => rfl)⟩ hP hD hS (lv_sub hl [1, 0, 2] rfl)
  obtain ⟨du_2, mo_3, a_4, fk_5, p22_6, p_7, d_8, q_9, f19_10, f28_11, x_12, y_13, j_14, k_15, sg_16, Tm_17⟩ := x9
  replace hj : ws9 = (mw h0 ad cs (upd (upd (upd (upd (upd (upd iv 21 (nI fk_5)) 22 p22_6) 25 (nI a_4)) 29 (nI p_7)) 30 (nI d_8)) 31 (nI q_9)) (uF (uF fv 19 f19_10) 28 f28_11) gv) ∧ (du_2 ≤ 1) ∧ (mo_3 ≤ 1) ∧ (1 ≤ mo_3 ∨ du_2 = 0) ∧ (a_4 ≤ n26) ∧ (2 * (d_8 + j_14 + x_12) ≤ a_4) ∧ (fk_5 ≤ 3) ∧ (pil f28_11 p_7 x_12 y_13 j_14 k_15) ∧ (q_9 = x_12 + y_13) ∧ (x_12 + y_13 ≤ 6) ∧ (1 ≤ fk_5 ∨ cfr f19_10 (200 * n14) Tm_17 (200 * n14 + d_8)) ∧ (∀ i : Nat, i < 200 * n14 → f19_10 i = fv 19 i) ∧ (plS f28_11 sg_16) ∧ (p_7 = sg_16.length) ∧ (q_9 = dep sg_16) ∧ (fk_5 = 0 → mo_3 = 1 → Rch (fv 0) n26 (0, skB (fv 0) n26 n25, [], []) (1 - du_2, skB (fv 0) n26 a_4, sg_16, Tm_17)) ∧ (¬ fk_5 = 0 → rcF (fv 0) n26 (0, skB (fv 0) n26 n25, [], []) fk_5 p22_6) ∧ (mo_3 = 0 → fk_5 = 0 → eiE (fv 0) n26 (0, skB (fv 0) n26 n25, [], []) sg_16 Tm_17 a_4) ∧ (fk_5 = 0 → p22_6 = iv 22) := hj
  obtain ⟨rfl, hdu_18, hmo_19, hmd_20, ha_21, hsz_22, hfk_23, hp_24, hq_25, h6_26, hw_27, hfr_28, hpl_29, hpn_30, hdq_31, hrc_32, hrf_33, hre_34, hp0_35⟩ := hj
  have hl : lv_has ls 5 [(1, .int (nI du_2)), (2, .int (nI mo_3)), (0, .ref h0)] := hl
  have hlen := hp_24.len
  refine lv_iload_n hx hb dX9_either_19 rfl (lv_at hl 1 rfl) ?_
  refine lv_if_eq (tgt := 205) hx hb dX9_either_20 (by decide) (fun c_36 => ?_) (fun c_36 => ?_)
  · have d_37 := n_eq (a := mo_3) (b := 0) (by omega) (by omega) c_36
    obtain rfl : du_2 = 0 := by omega
    refine lv_aload_n hx hb dX9_either_205 rfl (lv_at hl 2 rfl) ?_
    refine va_get (D := D) (ci := 9) (v := .int (nI fk_5)) (C := RX9) (T := TX9) (N := 44) hx hb hts hin9 hown hK hP 0 rfl rfl 21 (by decide) (hts (.fieldLink RX9 74 "HoneyHouseModel" "faultKind" "I") (List.mem_of_getElem? (i := 4) rfl)) (fun _ h9 => h9) rfl dX9_either_206 ?_
    refine lv_if_ne (tgt := 228) hx hb dX9_either_209 (by decide) (fun c_38 => ?_) (fun c_38 => ?_)
    · have d_39 := n_ne (a := fk_5) (b := 0) (by omega) (by omega) c_38
      refine lv_aload_n hx hb dX9_either_228 rfl (lv_at hl 2 rfl) ?_
      refine lv_iconst (v := 1) hx hb dX9_either_229 (by decide) ?_
      have hFc := free_all hD hS hA
      refine va_callv (va_runV (As := [.int 1]) (rest := []) ⟨hx, hb, hml, hown, hts⟩ (m_joins l D h0 ad cs (upd (upd (upd (upd (upd (upd iv 21 (nI fk_5)) 22 p22_6) 25 (nI a_4)) 29 (nI p_7)) 30 (nI d_8)) 31 (nI q_9)) (uF (uF fv 19 f19_10) 28 f28_11) gv n14 p_7 d_8 1 x_12 y_13 j_14 k_15 sg_16 H.size h14 rfl rfl (by omega) (by omega) hp_24 (by omega) (by omega) hpl_29 hpn_30) (cwV 1 hts gX9_either_X9_joins rfl rfl rfl (by decide +kernel) ⟨Nat.le_of_ble_eq_true rfl, Nat.le_of_ble_eq_true rfl⟩) ⟨fun a U g mk q => by obtain ⟨q0, q1, qP, qK, qD⟩ := q; exact ⟨q0, q1, qP, va_K.moved (u := U) (U := U.calling g mk a) (Vm.Alike.refl U.vm) qK, qD⟩, va_recv hK hP (ci := 9) (q0 := 0) rfl rfl, fun U hU hW => ⟨rfl, by rw [hU], by rw [hU]; exact hP, va_K.moved hW.alike hK, hD.weaken (fun _ _ _ _ => trivial)⟩⟩ rfl rfl hl.1 rfl (lv_room (Nat.le_of_ble_eq_true rfl)) dX9_either_230 ⟨Nat.le_of_ble_eq_true rfl, Nat.le_of_ble_eq_true rfl⟩) hS (fun q _ h => hFc q h) hFc (fun u t H1 locs ht hvm w_41 hB hz1 hk1 hS => ?_)
      obtain ⟨k29_42, k30_43, f19_44, gj2_45, gk2_46, q_47, q_48, q_49, q_50, q_51, q_52, q_53, q_54, q_55, q_56, hP1, hK1, hD1⟩ := hB
      replace q_47 : pil ((f28_11)) k29_42 x_12 y_13 gj2_45 gk2_46 := q_47
      replace q_51 : ∀ i : Nat, k29_42 ≤ i → i < p_7 → (f28_11) i = 1 ∨ (f28_11) i = 2 := q_51
      replace q_52 : ∀ i : Nat, i < 200 * n14 → f19_44 i = (f19_10) i := q_52
      replace q_53 : ∀ T9 : List Tk, cfr ((f19_10)) (200 * n14) T9 (200 * n14 + d_8) → cfr f19_44 (200 * n14) (T9 ++ eW 1 sg_16) (200 * n14 + k30_43) := q_53
      replace q_55 : plS ((f28_11)) (jW 1 sg_16) := q_55
      rw [ht] at hP1
      have hK := va_K.moved hvm.symm hK1
      generalize H1 = H at hP1 hS ⊢
      have hP : va_P D vwCl (mw h0 ad cs (upd (upd (upd (upd (upd (upd iv 21 (nI fk_5)) 22 p22_6) 25 (nI a_4)) 29 (nI k29_42)) 30 (nI k30_43)) 31 (nI q_9)) (uF (uF fv 19 f19_44) 28 f28_11) gv) H := hP1
      have hD : va_D A (mw h0 ad cs (upd (upd (upd (upd (upd (upd iv 21 (nI fk_5)) 22 p22_6) 25 (nI a_4)) 29 (nI k29_42)) 30 (nI k30_43)) 31 (nI q_9)) (uF (uF fv 19 f19_44) 28 f28_11) gv) := hD1.weaken (fun _ _ _ h => hFc _ h)
      have hjl : plS f28_11 (jO sg_16) := q_55
      have hjn : k29_42 = (jO sg_16).length := q_56
      have hfr_57 : ∀ i : Nat, i < 200 * n14 → f19_44 i = fv 19 i := fun i h9 => (q_52 i h9).trans (hfr_28 i h9)
      have hlen2 := q_47.len
      have hP : va_P D vwCl (mw h0 ad cs (upd (upd (upd (upd (upd (upd iv 21 (nI fk_5)) 22 p22_6) 25 (nI a_4)) 29 (nI k29_42)) 30 (nI k30_43)) 31 (nI q_9)) (uF (uF fv 19 f19_44) 28 f28_11) gv) H := hP
      have hD : va_D A (mw h0 ad cs (upd (upd (upd (upd (upd (upd iv 21 (nI fk_5)) 22 p22_6) 25 (nI a_4)) 29 (nI k29_42)) 30 (nI k30_43)) 31 (nI q_9)) (uF (uF fv 19 f19_44) 28 f28_11) gv) := hD
      exact W.vret hx hb hr (fun t ht hW => ⟨⟨(), rfl, trivial, fk_5, p22_6, a_4, k29_42, k30_43, q_9, f19_44, f28_11, by omega, by omega, by omega, hfr_57, trivial, (Or.inr ⟨by omega, hrf_33 (by omega)⟩), hp0_35, by rw [ht]; exact hP, va_K.moved hW.alike hK, hD⟩, hS.F ht⟩) hS.2.2 dX9_either_233
    have d_58 := n_eq (a := fk_5) (b := 0) (by omega) (by omega) c_38
    refine lv_aload_n hx hb dX9_either_212 rfl (lv_at hl 2 rfl) ?_
    refine vp_callSi (W.runV (As := []) (rest := []) ⟨hx, hb, hml, hown, hts⟩ (m_brackets l D h0 ad cs (upd (upd (upd (upd (upd (upd iv 21 (nI fk_5)) 22 p22_6) 25 (nI a_4)) 29 (nI p_7)) 30 (nI d_8)) 31 (nI q_9)) (uF (uF fv 19 f19_10) 28 f28_11) gv p_7 sg_16 rfl (by omega) hpl_29 hpn_30) (cwV 0 hts gX9_either_X9_brackets rfl rfl rfl (by decide +kernel) ⟨Nat.le_of_ble_eq_true rfl, Nat.le_of_ble_eq_true rfl⟩) ⟨fun a U g mk q => ⟨q.1, q.2.1, va_K.moved (u := U) (U := U.calling g mk a) (Vm.Alike.refl U.vm) q.2.2⟩, va_recv hK hP (ci := 9) (q0 := 0) rfl rfl, fun U hU hW => ⟨rfl, by rw [hU]; exact hP, va_K.moved hW.alike hK⟩⟩ rfl rfl hl.1 rfl (lv_room (Nat.le_of_ble_eq_true rfl)) dX9_either_213 ⟨Nat.le_of_ble_eq_true rfl, Nat.le_of_ble_eq_true rfl⟩) (fun r_59 k_60 => ?_)
    obtain ⟨b_61, rfl, hb_62, hb_63, hb_64⟩ := k_60
    refine lv_if_le (tgt := 228) hx hb dX9_either_216 (by decide) (fun c_65 => ?_) (fun c_65 => ?_)
    · have d_66 := n_le (a := b_61) (b := 0) (by omega) (by omega) c_65
      refine lv_aload_n hx hb dX9_either_228 rfl (lv_at hl 2 rfl) ?_
      refine lv_iconst (v := 1) hx hb dX9_either_229 (by decide) ?_
      have hFc := free_all hD hS hA
      refine va_callv (va_runV (As := [.int 1]) (rest := []) ⟨hx, hb, hml, hown, hts⟩ (m_joins l D h0 ad cs (upd (upd (upd (upd (upd (upd iv 21 (nI fk_5)) 22 p22_6) 25 (nI a_4)) 29 (nI p_7)) 30 (nI d_8)) 31 (nI q_9)) (uF (uF fv 19 f19_10) 28 f28_11) gv n14 p_7 d_8 1 x_12 y_13 j_14 k_15 sg_16 H.size h14 rfl rfl (by omega) (by omega) hp_24 (by omega) (by omega) hpl_29 hpn_30) (cwV 1 hts gX9_either_X9_joins rfl rfl rfl (by decide +kernel) ⟨Nat.le_of_ble_eq_true rfl, Nat.le_of_ble_eq_true rfl⟩) ⟨fun a U g mk q => by obtain ⟨q0, q1, qP, qK, qD⟩ := q; exact ⟨q0, q1, qP, va_K.moved (u := U) (U := U.calling g mk a) (Vm.Alike.refl U.vm) qK, qD⟩, va_recv hK hP (ci := 9) (q0 := 0) rfl rfl, fun U hU hW => ⟨rfl, by rw [hU], by rw [hU]; exact hP, va_K.moved hW.alike hK, hD.weaken (fun _ _ _ _ => trivial)⟩⟩ rfl rfl hl.1 rfl (lv_room (Nat.le_of_ble_eq_true rfl)) dX9_either_230 ⟨Nat.le_of_ble_eq_true rfl, Nat.le_of_ble_eq_true rfl⟩) hS (fun q _ h => hFc q h) hFc (fun u t H1 locs ht hvm w_68 hB hz1 hk1 hS => ?_)
      obtain ⟨k29_69, k30_70, f19_71, gj2_72, gk2_73, q_74, q_75, q_76, q_77, q_78, q_79, q_80, q_81, q_82, q_83, hP1, hK1, hD1⟩ := hB
      replace q_74 : pil ((f28_11)) k29_69 x_12 y_13 gj2_72 gk2_73 := q_74
      replace q_78 : ∀ i : Nat, k29_69 ≤ i → i < p_7 → (f28_11) i = 1 ∨ (f28_11) i = 2 := q_78
      replace q_79 : ∀ i : Nat, i < 200 * n14 → f19_71 i = (f19_10) i := q_79
      replace q_80 : ∀ T9 : List Tk, cfr ((f19_10)) (200 * n14) T9 (200 * n14 + d_8) → cfr f19_71 (200 * n14) (T9 ++ eW 1 sg_16) (200 * n14 + k30_70) := q_80
      replace q_82 : plS ((f28_11)) (jW 1 sg_16) := q_82
      rw [ht] at hP1
      have hK := va_K.moved hvm.symm hK1
      generalize H1 = H at hP1 hS ⊢
      have hP : va_P D vwCl (mw h0 ad cs (upd (upd (upd (upd (upd (upd iv 21 (nI fk_5)) 22 p22_6) 25 (nI a_4)) 29 (nI k29_69)) 30 (nI k30_70)) 31 (nI q_9)) (uF (uF fv 19 f19_71) 28 f28_11) gv) H := hP1
      have hD : va_D A (mw h0 ad cs (upd (upd (upd (upd (upd (upd iv 21 (nI fk_5)) 22 p22_6) 25 (nI a_4)) 29 (nI k29_69)) 30 (nI k30_70)) 31 (nI q_9)) (uF (uF fv 19 f19_71) 28 f28_11) gv) := hD1.weaken (fun _ _ _ h => hFc _ h)
      have hjl : plS f28_11 (jO sg_16) := q_82
      have hjn : k29_69 = (jO sg_16).length := q_83
      have hfr_84 : ∀ i : Nat, i < 200 * n14 → f19_71 i = fv 19 i := fun i h9 => (q_79 i h9).trans (hfr_28 i h9)
      have hlen2 := q_74.len
      have hP : va_P D vwCl (mw h0 ad cs (upd (upd (upd (upd (upd (upd iv 21 (nI fk_5)) 22 p22_6) 25 (nI a_4)) 29 (nI k29_69)) 30 (nI k30_70)) 31 (nI q_9)) (uF (uF fv 19 f19_71) 28 f28_11) gv) H := hP
      have hD : va_D A (mw h0 ad cs (upd (upd (upd (upd (upd (upd iv 21 (nI fk_5)) 22 p22_6) 25 (nI a_4)) 29 (nI k29_69)) 30 (nI k30_70)) 31 (nI q_9)) (uF (uF fv 19 f19_71) 28 f28_11) gv) := hD
      exact W.vret hx hb hr (fun t ht hW => ⟨⟨(), rfl, trivial, fk_5, p22_6, a_4, k29_69, k30_70, q_9, f19_71, f28_11, by omega, by omega, by omega, hfr_84, trivial, (Or.inl ⟨by omega, (hre_34 (by omega) (by omega)).ok (by omega) (q_80 _ (hw_27.resolve_left (by omega)))⟩), hp0_35, by rw [ht]; exact hP, va_K.moved hW.alike hK, hD⟩, hS.F ht⟩) hS.2.2 dX9_either_233
    have d_85 := n_nle (a := b_61) (b := 0) (by omega) (by omega) c_65
    refine lv_aload_n hx hb dX9_either_219 rfl (lv_at hl 2 rfl) ?_
    refine lv_iconst (v := 1) hx hb dX9_either_220 (by decide) ?_
    refine lv_aload_n hx hb dX9_either_221 rfl (lv_at hl 2 rfl) ?_
    refine va_get (D := D) (ci := 9) (v := .int (nI a_4)) (C := RX9) (T := TX9) (N := 44) hx hb hts hin9 hown hK hP 0 rfl rfl 25 (by decide) (hts (.fieldLink RX9 87 "HoneyHouseModel" "at" "I") (List.mem_of_getElem? (i := 6) rfl)) (fun _ h9 => h9) rfl dX9_either_222 ?_
    have hFc := free_all hD hS hA
    refine va_callv (va_runV (As := [.int 1, .int (nI a_4)]) (rest := []) ⟨hx, hb, hml, hown, hts⟩ (m_blame l D h0 ad cs (upd (upd (upd (upd (upd (upd iv 21 (nI fk_5)) 22 p22_6) 25 (nI a_4)) 29 (nI p_7)) 30 (nI d_8)) 31 (nI q_9)) (uF (uF fv 19 f19_10) 28 f28_11) gv fk_5 1 (nI a_4) H.size rfl (by omega) (by omega)) (cwV 2 hts gX9_either_X9_blame rfl rfl rfl (by decide +kernel) ⟨Nat.le_of_ble_eq_true rfl, Nat.le_of_ble_eq_true rfl⟩) ⟨fun a U g mk q => by obtain ⟨q0, q1, qP, qK, qD⟩ := q; exact ⟨q0, q1, qP, va_K.moved (u := U) (U := U.calling g mk a) (Vm.Alike.refl U.vm) qK, qD⟩, va_recv hK hP (ci := 9) (q0 := 0) rfl rfl, fun U hU hW => ⟨rfl, by rw [hU], by rw [hU]; exact hP, va_K.moved hW.alike hK, hD.weaken (fun _ _ _ _ => trivial)⟩⟩ rfl rfl hl.1 rfl (lv_room (Nat.le_of_ble_eq_true rfl)) dX9_either_225 ⟨Nat.le_of_ble_eq_true rfl, Nat.le_of_ble_eq_true rfl⟩) hS (fun q _ h => hFc q h) hFc (fun u t H1 locs ht hvm w_87 hB hz1 hk1 hS => ?_)
    obtain ⟨k21_88, p22_89, q_90, q_91, q_92, hP1, hK1, hD1⟩ := hB
    replace q_92 : (fk_5 = 0 → k21_88 = 1 ∧ p22_89 = (nI a_4)) ∧ (¬ fk_5 = 0 → k21_88 = fk_5 ∧ p22_89 = (p22_6)) := q_92
    rw [ht] at hP1
    have hK := va_K.moved hvm.symm hK1
    generalize H1 = H at hP1 hS ⊢
    have hP : va_P D vwCl (mw h0 ad cs (upd (upd (upd (upd (upd (upd iv 21 (nI k21_88)) 22 p22_89) 25 (nI a_4)) 29 (nI p_7)) 30 (nI d_8)) 31 (nI q_9)) (uF (uF fv 19 f19_10) 28 f28_11) gv) H := hP1
    have hD : va_D A (mw h0 ad cs (upd (upd (upd (upd (upd (upd iv 21 (nI k21_88)) 22 p22_89) 25 (nI a_4)) 29 (nI p_7)) 30 (nI d_8)) 31 (nI q_9)) (uF (uF fv 19 f19_10) 28 f28_11) gv) := hD1.weaken (fun _ _ _ h => hFc _ h)
    refine lv_aload_n hx hb dX9_either_228 rfl (lv_at hl 2 rfl) ?_
    refine lv_iconst (v := 1) hx hb dX9_either_229 (by decide) ?_
    have hFc := free_all hD hS hA
    refine va_callv (va_runV (As := [.int 1]) (rest := []) ⟨hx, hb, hml, hown, hts⟩ (m_joins l D h0 ad cs (upd (upd (upd (upd (upd (upd iv 21 (nI k21_88)) 22 p22_89) 25 (nI a_4)) 29 (nI p_7)) 30 (nI d_8)) 31 (nI q_9)) (uF (uF fv 19 f19_10) 28 f28_11) gv n14 p_7 d_8 1 x_12 y_13 j_14 k_15 sg_16 H.size h14 rfl rfl (by omega) (by omega) hp_24 (by omega) (by omega) hpl_29 hpn_30) (cwV 1 hts gX9_either_X9_joins rfl rfl rfl (by decide +kernel) ⟨Nat.le_of_ble_eq_true rfl, Nat.le_of_ble_eq_true rfl⟩) ⟨fun a U g mk q => by obtain ⟨q0, q1, qP, qK, qD⟩ := q; exact ⟨q0, q1, qP, va_K.moved (u := U) (U := U.calling g mk a) (Vm.Alike.refl U.vm) qK, qD⟩, va_recv hK hP (ci := 9) (q0 := 0) rfl rfl, fun U hU hW => ⟨rfl, by rw [hU], by rw [hU]; exact hP, va_K.moved hW.alike hK, hD.weaken (fun _ _ _ _ => trivial)⟩⟩ rfl rfl hl.1 rfl (lv_room (Nat.le_of_ble_eq_true rfl)) dX9_either_230 ⟨Nat.le_of_ble_eq_true rfl, Nat.le_of_ble_eq_true rfl⟩) hS (fun q _ h => hFc q h) hFc (fun u t H1 locs ht hvm w_94 hB hz1 hk1 hS => ?_)
    obtain ⟨k29_95, k30_96, f19_97, gj2_98, gk2_99, q_100, q_101, q_102, q_103, q_104, q_105, q_106, q_107, q_108, q_109, hP1, hK1, hD1⟩ := hB
    replace q_100 : pil ((f28_11)) k29_95 x_12 y_13 gj2_98 gk2_99 := q_100
    replace q_104 : ∀ i : Nat, k29_95 ≤ i → i < p_7 → (f28_11) i = 1 ∨ (f28_11) i = 2 := q_104
    replace q_105 : ∀ i : Nat, i < 200 * n14 → f19_97 i = (f19_10) i := q_105
    replace q_106 : ∀ T9 : List Tk, cfr ((f19_10)) (200 * n14) T9 (200 * n14 + d_8) → cfr f19_97 (200 * n14) (T9 ++ eW 1 sg_16) (200 * n14 + k30_96) := q_106
    replace q_108 : plS ((f28_11)) (jW 1 sg_16) := q_108
    rw [ht] at hP1
    have hK := va_K.moved hvm.symm hK1
    generalize H1 = H at hP1 hS ⊢
    have hP : va_P D vwCl (mw h0 ad cs (upd (upd (upd (upd (upd (upd iv 21 (nI k21_88)) 22 p22_89) 25 (nI a_4)) 29 (nI k29_95)) 30 (nI k30_96)) 31 (nI q_9)) (uF (uF fv 19 f19_97) 28 f28_11) gv) H := hP1
    have hD : va_D A (mw h0 ad cs (upd (upd (upd (upd (upd (upd iv 21 (nI k21_88)) 22 p22_89) 25 (nI a_4)) 29 (nI k29_95)) 30 (nI k30_96)) 31 (nI q_9)) (uF (uF fv 19 f19_97) 28 f28_11) gv) := hD1.weaken (fun _ _ _ h => hFc _ h)
    have hjl : plS f28_11 (jO sg_16) := q_108
    have hjn : k29_95 = (jO sg_16).length := q_109
    have hfr_110 : ∀ i : Nat, i < 200 * n14 → f19_97 i = fv 19 i := fun i h9 => (q_105 i h9).trans (hfr_28 i h9)
    have hlen2 := q_100.len
    have hP : va_P D vwCl (mw h0 ad cs (upd (upd (upd (upd (upd (upd iv 21 (nI k21_88)) 22 p22_89) 25 (nI a_4)) 29 (nI k29_95)) 30 (nI k30_96)) 31 (nI q_9)) (uF (uF fv 19 f19_97) 28 f28_11) gv) H := hP
    have hD : va_D A (mw h0 ad cs (upd (upd (upd (upd (upd (upd iv 21 (nI k21_88)) 22 p22_89) 25 (nI a_4)) 29 (nI k29_95)) 30 (nI k30_96)) 31 (nI q_9)) (uF (uF fv 19 f19_97) 28 f28_11) gv) := hD
    exact W.vret hx hb hr (fun t ht hW => ⟨⟨(), rfl, trivial, k21_88, p22_89, a_4, k29_95, k30_96, q_9, f19_97, f28_11, by omega, by omega, by omega, hfr_110, trivial, (Or.inr ⟨by omega, (hre_34 (by omega) (by omega)).no (by omega) (q_92.1 (by omega))⟩), fun h9 => absurd h9 (by omega), by rw [ht]; exact hP, va_K.moved hW.alike hK, hD⟩, hS.F ht⟩) hS.2.2 dX9_either_233
  have d_111 := n_ne (a := mo_3) (b := 0) (by omega) (by omega) c_36
  refine lv_aload_n hx hb dX9_either_23 rfl (lv_at hl 2 rfl) ?_
  refine va_get (D := D) (ci := 9) (v := .int (nI fk_5)) (C := RX9) (T := TX9) (N := 44) hx hb hts hin9 hown hK hP 0 rfl rfl 21 (by decide) (hts (.fieldLink RX9 74 "HoneyHouseModel" "faultKind" "I") (List.mem_of_getElem? (i := 4) rfl)) (fun _ h9 => h9) rfl dX9_either_24 ?_
  refine lv_if_ne (tgt := 205) hx hb dX9_either_27 (by decide) (fun c_112 => ?_) (fun c_112 => ?_)
  · have d_113 := n_ne (a := fk_5) (b := 0) (by omega) (by omega) c_112
    refine lv_aload_n hx hb dX9_either_205 rfl (lv_at hl 2 rfl) ?_
    refine va_get (D := D) (ci := 9) (v := .int (nI fk_5)) (C := RX9) (T := TX9) (N := 44) hx hb hts hin9 hown hK hP 0 rfl rfl 21 (by decide) (hts (.fieldLink RX9 74 "HoneyHouseModel" "faultKind" "I") (List.mem_of_getElem? (i := 4) rfl)) (fun _ h9 => h9) rfl dX9_either_206 ?_
    refine lv_if_ne (tgt := 228) hx hb dX9_either_209 (by decide) (fun c_114 => ?_) (fun c_114 => ?_)
    · have d_115 := n_ne (a := fk_5) (b := 0) (by omega) (by omega) c_114
      refine lv_aload_n hx hb dX9_either_228 rfl (lv_at hl 2 rfl) ?_
      refine lv_iconst (v := 1) hx hb dX9_either_229 (by decide) ?_
      have hFc := free_all hD hS hA
      refine va_callv (va_runV (As := [.int 1]) (rest := []) ⟨hx, hb, hml, hown, hts⟩ (m_joins l D h0 ad cs (upd (upd (upd (upd (upd (upd iv 21 (nI fk_5)) 22 p22_6) 25 (nI a_4)) 29 (nI p_7)) 30 (nI d_8)) 31 (nI q_9)) (uF (uF fv 19 f19_10) 28 f28_11) gv n14 p_7 d_8 1 x_12 y_13 j_14 k_15 sg_16 H.size h14 rfl rfl (by omega) (by omega) hp_24 (by omega) (by omega) hpl_29 hpn_30) (cwV 1 hts gX9_either_X9_joins rfl rfl rfl (by decide +kernel) ⟨Nat.le_of_ble_eq_true rfl, Nat.le_of_ble_eq_true rfl⟩) ⟨fun a U g mk q => by obtain ⟨q0, q1, qP, qK, qD⟩ := q; exact ⟨q0, q1, qP, va_K.moved (u := U) (U := U.calling g mk a) (Vm.Alike.refl U.vm) qK, qD⟩, va_recv hK hP (ci := 9) (q0 := 0) rfl rfl, fun U hU hW => ⟨rfl, by rw [hU], by rw [hU]; exact hP, va_K.moved hW.alike hK, hD.weaken (fun _ _ _ _ => trivial)⟩⟩ rfl rfl hl.1 rfl (lv_room (Nat.le_of_ble_eq_true rfl)) dX9_either_230 ⟨Nat.le_of_ble_eq_true rfl, Nat.le_of_ble_eq_true rfl⟩) hS (fun q _ h => hFc q h) hFc (fun u t H1 locs ht hvm w_117 hB hz1 hk1 hS => ?_)
      obtain ⟨k29_118, k30_119, f19_120, gj2_121, gk2_122, q_123, q_124, q_125, q_126, q_127, q_128, q_129, q_130, q_131, q_132, hP1, hK1, hD1⟩ := hB
      replace q_123 : pil ((f28_11)) k29_118 x_12 y_13 gj2_121 gk2_122 := q_123
      replace q_127 : ∀ i : Nat, k29_118 ≤ i → i < p_7 → (f28_11) i = 1 ∨ (f28_11) i = 2 := q_127
      replace q_128 : ∀ i : Nat, i < 200 * n14 → f19_120 i = (f19_10) i := q_128
      replace q_129 : ∀ T9 : List Tk, cfr ((f19_10)) (200 * n14) T9 (200 * n14 + d_8) → cfr f19_120 (200 * n14) (T9 ++ eW 1 sg_16) (200 * n14 + k30_119) := q_129
      replace q_131 : plS ((f28_11)) (jW 1 sg_16) := q_131
      rw [ht] at hP1
      have hK := va_K.moved hvm.symm hK1
      generalize H1 = H at hP1 hS ⊢
      have hP : va_P D vwCl (mw h0 ad cs (upd (upd (upd (upd (upd (upd iv 21 (nI fk_5)) 22 p22_6) 25 (nI a_4)) 29 (nI k29_118)) 30 (nI k30_119)) 31 (nI q_9)) (uF (uF fv 19 f19_120) 28 f28_11) gv) H := hP1
      have hD : va_D A (mw h0 ad cs (upd (upd (upd (upd (upd (upd iv 21 (nI fk_5)) 22 p22_6) 25 (nI a_4)) 29 (nI k29_118)) 30 (nI k30_119)) 31 (nI q_9)) (uF (uF fv 19 f19_120) 28 f28_11) gv) := hD1.weaken (fun _ _ _ h => hFc _ h)
      have hjl : plS f28_11 (jO sg_16) := q_131
      have hjn : k29_118 = (jO sg_16).length := q_132
      have hfr_133 : ∀ i : Nat, i < 200 * n14 → f19_120 i = fv 19 i := fun i h9 => (q_128 i h9).trans (hfr_28 i h9)
      have hlen2 := q_123.len
      have hP : va_P D vwCl (mw h0 ad cs (upd (upd (upd (upd (upd (upd iv 21 (nI fk_5)) 22 p22_6) 25 (nI a_4)) 29 (nI k29_118)) 30 (nI k30_119)) 31 (nI q_9)) (uF (uF fv 19 f19_120) 28 f28_11) gv) H := hP
      have hD : va_D A (mw h0 ad cs (upd (upd (upd (upd (upd (upd iv 21 (nI fk_5)) 22 p22_6) 25 (nI a_4)) 29 (nI k29_118)) 30 (nI k30_119)) 31 (nI q_9)) (uF (uF fv 19 f19_120) 28 f28_11) gv) := hD
      exact W.vret hx hb hr (fun t ht hW => ⟨⟨(), rfl, trivial, fk_5, p22_6, a_4, k29_118, k30_119, q_9, f19_120, f28_11, by omega, by omega, by omega, hfr_133, trivial, (Or.inr ⟨by omega, hrf_33 (by omega)⟩), hp0_35, by rw [ht]; exact hP, va_K.moved hW.alike hK, hD⟩, hS.F ht⟩) hS.2.2 dX9_either_233
    have d_134 := n_eq (a := fk_5) (b := 0) (by omega) (by omega) c_114
    refine lv_aload_n hx hb dX9_either_212 rfl (lv_at hl 2 rfl) ?_
    refine vp_callSi (W.runV (As := []) (rest := []) ⟨hx, hb, hml, hown, hts⟩ (m_brackets l D h0 ad cs (upd (upd (upd (upd (upd (upd iv 21 (nI fk_5)) 22 p22_6) 25 (nI a_4)) 29 (nI p_7)) 30 (nI d_8)) 31 (nI q_9)) (uF (uF fv 19 f19_10) 28 f28_11) gv p_7 sg_16 rfl (by omega) hpl_29 hpn_30) (cwV 0 hts gX9_either_X9_brackets rfl rfl rfl (by decide +kernel) ⟨Nat.le_of_ble_eq_true rfl, Nat.le_of_ble_eq_true rfl⟩) ⟨fun a U g mk q => ⟨q.1, q.2.1, va_K.moved (u := U) (U := U.calling g mk a) (Vm.Alike.refl U.vm) q.2.2⟩, va_recv hK hP (ci := 9) (q0 := 0) rfl rfl, fun U hU hW => ⟨rfl, by rw [hU]; exact hP, va_K.moved hW.alike hK⟩⟩ rfl rfl hl.1 rfl (lv_room (Nat.le_of_ble_eq_true rfl)) dX9_either_213 ⟨Nat.le_of_ble_eq_true rfl, Nat.le_of_ble_eq_true rfl⟩) (fun r_135 k_136 => ?_)
    obtain ⟨b_137, rfl, hb_138, hb_139, hb_140⟩ := k_136
    refine lv_if_le (tgt := 228) hx hb dX9_either_216 (by decide) (fun c_141 => ?_) (fun c_141 => ?_)
    · have d_142 := n_le (a := b_137) (b := 0) (by omega) (by omega) c_141
      refine lv_aload_n hx hb dX9_either_228 rfl (lv_at hl 2 rfl) ?_
      refine lv_iconst (v := 1) hx hb dX9_either_229 (by decide) ?_
      have hFc := free_all hD hS hA
      refine va_callv (va_runV (As := [.int 1]) (rest := []) ⟨hx, hb, hml, hown, hts⟩ (m_joins l D h0 ad cs (upd (upd (upd (upd (upd (upd iv 21 (nI fk_5)) 22 p22_6) 25 (nI a_4)) 29 (nI p_7)) 30 (nI d_8)) 31 (nI q_9)) (uF (uF fv 19 f19_10) 28 f28_11) gv n14 p_7 d_8 1 x_12 y_13 j_14 k_15 sg_16 H.size h14 rfl rfl (by omega) (by omega) hp_24 (by omega) (by omega) hpl_29 hpn_30) (cwV 1 hts gX9_either_X9_joins rfl rfl rfl (by decide +kernel) ⟨Nat.le_of_ble_eq_true rfl, Nat.le_of_ble_eq_true rfl⟩) ⟨fun a U g mk q => by obtain ⟨q0, q1, qP, qK, qD⟩ := q; exact ⟨q0, q1, qP, va_K.moved (u := U) (U := U.calling g mk a) (Vm.Alike.refl U.vm) qK, qD⟩, va_recv hK hP (ci := 9) (q0 := 0) rfl rfl, fun U hU hW => ⟨rfl, by rw [hU], by rw [hU]; exact hP, va_K.moved hW.alike hK, hD.weaken (fun _ _ _ _ => trivial)⟩⟩ rfl rfl hl.1 rfl (lv_room (Nat.le_of_ble_eq_true rfl)) dX9_either_230 ⟨Nat.le_of_ble_eq_true rfl, Nat.le_of_ble_eq_true rfl⟩) hS (fun q _ h => hFc q h) hFc (fun u t H1 locs ht hvm w_144 hB hz1 hk1 hS => ?_)
      obtain ⟨k29_145, k30_146, f19_147, gj2_148, gk2_149, q_150, q_151, q_152, q_153, q_154, q_155, q_156, q_157, q_158, q_159, hP1, hK1, hD1⟩ := hB
      replace q_150 : pil ((f28_11)) k29_145 x_12 y_13 gj2_148 gk2_149 := q_150
      replace q_154 : ∀ i : Nat, k29_145 ≤ i → i < p_7 → (f28_11) i = 1 ∨ (f28_11) i = 2 := q_154
      replace q_155 : ∀ i : Nat, i < 200 * n14 → f19_147 i = (f19_10) i := q_155
      replace q_156 : ∀ T9 : List Tk, cfr ((f19_10)) (200 * n14) T9 (200 * n14 + d_8) → cfr f19_147 (200 * n14) (T9 ++ eW 1 sg_16) (200 * n14 + k30_146) := q_156
      replace q_158 : plS ((f28_11)) (jW 1 sg_16) := q_158
      rw [ht] at hP1
      have hK := va_K.moved hvm.symm hK1
      generalize H1 = H at hP1 hS ⊢
      have hP : va_P D vwCl (mw h0 ad cs (upd (upd (upd (upd (upd (upd iv 21 (nI fk_5)) 22 p22_6) 25 (nI a_4)) 29 (nI k29_145)) 30 (nI k30_146)) 31 (nI q_9)) (uF (uF fv 19 f19_147) 28 f28_11) gv) H := hP1
      have hD : va_D A (mw h0 ad cs (upd (upd (upd (upd (upd (upd iv 21 (nI fk_5)) 22 p22_6) 25 (nI a_4)) 29 (nI k29_145)) 30 (nI k30_146)) 31 (nI q_9)) (uF (uF fv 19 f19_147) 28 f28_11) gv) := hD1.weaken (fun _ _ _ h => hFc _ h)
      have hjl : plS f28_11 (jO sg_16) := q_158
      have hjn : k29_145 = (jO sg_16).length := q_159
      have hfr_160 : ∀ i : Nat, i < 200 * n14 → f19_147 i = fv 19 i := fun i h9 => (q_155 i h9).trans (hfr_28 i h9)
      have hlen2 := q_150.len
      have hP : va_P D vwCl (mw h0 ad cs (upd (upd (upd (upd (upd (upd iv 21 (nI fk_5)) 22 p22_6) 25 (nI a_4)) 29 (nI k29_145)) 30 (nI k30_146)) 31 (nI q_9)) (uF (uF fv 19 f19_147) 28 f28_11) gv) H := hP
      have hD : va_D A (mw h0 ad cs (upd (upd (upd (upd (upd (upd iv 21 (nI fk_5)) 22 p22_6) 25 (nI a_4)) 29 (nI k29_145)) 30 (nI k30_146)) 31 (nI q_9)) (uF (uF fv 19 f19_147) 28 f28_11) gv) := hD
      exact W.vret hx hb hr (fun t ht hW => ⟨⟨(), rfl, trivial, fk_5, p22_6, a_4, k29_145, k30_146, q_9, f19_147, f28_11, by omega, by omega, by omega, hfr_160, trivial, (by exfalso; omega), hp0_35, by rw [ht]; exact hP, va_K.moved hW.alike hK, hD⟩, hS.F ht⟩) hS.2.2 dX9_either_233
    have d_161 := n_nle (a := b_137) (b := 0) (by omega) (by omega) c_141
    refine lv_aload_n hx hb dX9_either_219 rfl (lv_at hl 2 rfl) ?_
    refine lv_iconst (v := 1) hx hb dX9_either_220 (by decide) ?_
    refine lv_aload_n hx hb dX9_either_221 rfl (lv_at hl 2 rfl) ?_
    refine va_get (D := D) (ci := 9) (v := .int (nI a_4)) (C := RX9) (T := TX9) (N := 44) hx hb hts hin9 hown hK hP 0 rfl rfl 25 (by decide) (hts (.fieldLink RX9 87 "HoneyHouseModel" "at" "I") (List.mem_of_getElem? (i := 6) rfl)) (fun _ h9 => h9) rfl dX9_either_222 ?_
    have hFc := free_all hD hS hA
    refine va_callv (va_runV (As := [.int 1, .int (nI a_4)]) (rest := []) ⟨hx, hb, hml, hown, hts⟩ (m_blame l D h0 ad cs (upd (upd (upd (upd (upd (upd iv 21 (nI fk_5)) 22 p22_6) 25 (nI a_4)) 29 (nI p_7)) 30 (nI d_8)) 31 (nI q_9)) (uF (uF fv 19 f19_10) 28 f28_11) gv fk_5 1 (nI a_4) H.size rfl (by omega) (by omega)) (cwV 2 hts gX9_either_X9_blame rfl rfl rfl (by decide +kernel) ⟨Nat.le_of_ble_eq_true rfl, Nat.le_of_ble_eq_true rfl⟩) ⟨fun a U g mk q => by obtain ⟨q0, q1, qP, qK, qD⟩ := q; exact ⟨q0, q1, qP, va_K.moved (u := U) (U := U.calling g mk a) (Vm.Alike.refl U.vm) qK, qD⟩, va_recv hK hP (ci := 9) (q0 := 0) rfl rfl, fun U hU hW => ⟨rfl, by rw [hU], by rw [hU]; exact hP, va_K.moved hW.alike hK, hD.weaken (fun _ _ _ _ => trivial)⟩⟩ rfl rfl hl.1 rfl (lv_room (Nat.le_of_ble_eq_true rfl)) dX9_either_225 ⟨Nat.le_of_ble_eq_true rfl, Nat.le_of_ble_eq_true rfl⟩) hS (fun q _ h => hFc q h) hFc (fun u t H1 locs ht hvm w_163 hB hz1 hk1 hS => ?_)
    obtain ⟨k21_164, p22_165, q_166, q_167, q_168, hP1, hK1, hD1⟩ := hB
    replace q_168 : (fk_5 = 0 → k21_164 = 1 ∧ p22_165 = (nI a_4)) ∧ (¬ fk_5 = 0 → k21_164 = fk_5 ∧ p22_165 = (p22_6)) := q_168
    rw [ht] at hP1
    have hK := va_K.moved hvm.symm hK1
    generalize H1 = H at hP1 hS ⊢
    have hP : va_P D vwCl (mw h0 ad cs (upd (upd (upd (upd (upd (upd iv 21 (nI k21_164)) 22 p22_165) 25 (nI a_4)) 29 (nI p_7)) 30 (nI d_8)) 31 (nI q_9)) (uF (uF fv 19 f19_10) 28 f28_11) gv) H := hP1
    have hD : va_D A (mw h0 ad cs (upd (upd (upd (upd (upd (upd iv 21 (nI k21_164)) 22 p22_165) 25 (nI a_4)) 29 (nI p_7)) 30 (nI d_8)) 31 (nI q_9)) (uF (uF fv 19 f19_10) 28 f28_11) gv) := hD1.weaken (fun _ _ _ h => hFc _ h)
    refine lv_aload_n hx hb dX9_either_228 rfl (lv_at hl 2 rfl) ?_
    refine lv_iconst (v := 1) hx hb dX9_either_229 (by decide) ?_
    have hFc := free_all hD hS hA
    refine va_callv (va_runV (As := [.int 1]) (rest := []) ⟨hx, hb, hml, hown, hts⟩ (m_joins l D h0 ad cs (upd (upd (upd (upd (upd (upd iv 21 (nI k21_164)) 22 p22_165) 25 (nI a_4)) 29 (nI p_7)) 30 (nI d_8)) 31 (nI q_9)) (uF (uF fv 19 f19_10) 28 f28_11) gv n14 p_7 d_8 1 x_12 y_13 j_14 k_15 sg_16 H.size h14 rfl rfl (by omega) (by omega) hp_24 (by omega) (by omega) hpl_29 hpn_30) (cwV 1 hts gX9_either_X9_joins rfl rfl rfl (by decide +kernel) ⟨Nat.le_of_ble_eq_true rfl, Nat.le_of_ble_eq_true rfl⟩) ⟨fun a U g mk q => by obtain ⟨q0, q1, qP, qK, qD⟩ := q; exact ⟨q0, q1, qP, va_K.moved (u := U) (U := U.calling g mk a) (Vm.Alike.refl U.vm) qK, qD⟩, va_recv hK hP (ci := 9) (q0 := 0) rfl rfl, fun U hU hW => ⟨rfl, by rw [hU], by rw [hU]; exact hP, va_K.moved hW.alike hK, hD.weaken (fun _ _ _ _ => trivial)⟩⟩ rfl rfl hl.1 rfl (lv_room (Nat.le_of_ble_eq_true rfl)) dX9_either_230 ⟨Nat.le_of_ble_eq_true rfl, Nat.le_of_ble_eq_true rfl⟩) hS (fun q _ h => hFc q h) hFc (fun u t H1 locs ht hvm w_170 hB hz1 hk1 hS => ?_)
    obtain ⟨k29_171, k30_172, f19_173, gj2_174, gk2_175, q_176, q_177, q_178, q_179, q_180, q_181, q_182, q_183, q_184, q_185, hP1, hK1, hD1⟩ := hB
    replace q_176 : pil ((f28_11)) k29_171 x_12 y_13 gj2_174 gk2_175 := q_176
    replace q_180 : ∀ i : Nat, k29_171 ≤ i → i < p_7 → (f28_11) i = 1 ∨ (f28_11) i = 2 := q_180
    replace q_181 : ∀ i : Nat, i < 200 * n14 → f19_173 i = (f19_10) i := q_181
    replace q_182 : ∀ T9 : List Tk, cfr ((f19_10)) (200 * n14) T9 (200 * n14 + d_8) → cfr f19_173 (200 * n14) (T9 ++ eW 1 sg_16) (200 * n14 + k30_172) := q_182
    replace q_184 : plS ((f28_11)) (jW 1 sg_16) := q_184
    rw [ht] at hP1
    have hK := va_K.moved hvm.symm hK1
    generalize H1 = H at hP1 hS ⊢
    have hP : va_P D vwCl (mw h0 ad cs (upd (upd (upd (upd (upd (upd iv 21 (nI k21_164)) 22 p22_165) 25 (nI a_4)) 29 (nI k29_171)) 30 (nI k30_172)) 31 (nI q_9)) (uF (uF fv 19 f19_173) 28 f28_11) gv) H := hP1
    have hD : va_D A (mw h0 ad cs (upd (upd (upd (upd (upd (upd iv 21 (nI k21_164)) 22 p22_165) 25 (nI a_4)) 29 (nI k29_171)) 30 (nI k30_172)) 31 (nI q_9)) (uF (uF fv 19 f19_173) 28 f28_11) gv) := hD1.weaken (fun _ _ _ h => hFc _ h)
    have hjl : plS f28_11 (jO sg_16) := q_184
    have hjn : k29_171 = (jO sg_16).length := q_185
    have hfr_186 : ∀ i : Nat, i < 200 * n14 → f19_173 i = fv 19 i := fun i h9 => (q_181 i h9).trans (hfr_28 i h9)
    have hlen2 := q_176.len
    have hP : va_P D vwCl (mw h0 ad cs (upd (upd (upd (upd (upd (upd iv 21 (nI k21_164)) 22 p22_165) 25 (nI a_4)) 29 (nI k29_171)) 30 (nI k30_172)) 31 (nI q_9)) (uF (uF fv 19 f19_173) 28 f28_11) gv) H := hP
    have hD : va_D A (mw h0 ad cs (upd (upd (upd (upd (upd (upd iv 21 (nI k21_164)) 22 p22_165) 25 (nI a_4)) 29 (nI k29_171)) 30 (nI k30_172)) 31 (nI q_9)) (uF (uF fv 19 f19_173) 28 f28_11) gv) := hD
    exact W.vret hx hb hr (fun t ht hW => ⟨⟨(), rfl, trivial, k21_164, p22_165, a_4, k29_171, k30_172, q_9, f19_173, f28_11, by omega, by omega, by omega, hfr_186, trivial, (by exfalso; omega), fun h9 => absurd h9 (by omega), by rw [ht]; exact hP, va_K.moved hW.alike hK, hD⟩, hS.F ht⟩) hS.2.2 dX9_either_233
  have d_187 := n_eq (a := fk_5) (b := 0) (by omega) (by omega) c_112
  obtain rfl : fk_5 = 0 := by omega
  have hw_188 := hw_27.resolve_left (by omega)
  have hr9 := hrc_32 rfl (by omega)
  refine lv_aload_n hx hb dX9_either_30 rfl (lv_at hl 2 rfl) ?_
  have hFc := free_all hD hS hA
  refine va_calli (va_runV (As := []) (rest := []) ⟨hx, hb, hml, hown, hts⟩ (m_here l D h0 ad cs (upd (upd (upd (upd (upd (upd iv 21 (nI (0))) 22 p22_6) 25 (nI a_4)) 29 (nI p_7)) 30 (nI d_8)) 31 (nI q_9)) (uF (uF fv 19 f19_10) 28 f28_11) gv a_4 n26  H.size rfl h26 (by omega) (by omega)) (cwV 0 hts gX9_either_X9_here rfl rfl rfl (by decide +kernel) ⟨Nat.le_of_ble_eq_true rfl, Nat.le_of_ble_eq_true rfl⟩) ⟨fun a U g mk q => by obtain ⟨q0, q1, qP, qK, qD⟩ := q; exact ⟨q0, q1, qP, va_K.moved (u := U) (U := U.calling g mk a) (Vm.Alike.refl U.vm) qK, qD⟩, va_recv hK hP (ci := 9) (q0 := 0) rfl rfl, fun U hU hW => ⟨rfl, by rw [hU], by rw [hU]; exact hP, va_K.moved hW.alike hK, hD.weaken (fun _ _ _ _ => trivial)⟩⟩ rfl rfl hl.1 rfl (lv_room (Nat.le_of_ble_eq_true rfl)) dX9_either_31 ⟨Nat.le_of_ble_eq_true rfl, Nat.le_of_ble_eq_true rfl⟩) hS (fun q _ h => hFc q h) hFc (fun r_189 u t H1 locs ht hvm w_190 hB hz1 hk1 hS => ?_)
  subst w_190
  obtain ⟨k25_191, q_192, q_193, q_194, q_195, q_196, q_197, hP1, hK1, hD1⟩ := hB
  replace q_194 : k25_191 = n26 ∨ ¬ blk ((fv 0) k25_191) := q_194
  replace q_195 : (a_4 = n26 ∨ ¬ blk ((fv 0) a_4)) → k25_191 = a_4 := q_195
  replace q_196 : (r_189 = (-1) ∧ k25_191 = n26) ∨ (k25_191 < n26 ∧ r_189 = (fv 0) k25_191) := q_196
  replace q_197 : isRn blk ((fv 0)) n26 a_4 k25_191 := q_197
  rw [ht] at hP1
  have hK := va_K.moved hvm.symm hK1
  generalize H1 = H at hP1 hS ⊢
  have hP : va_P D vwCl (mw h0 ad cs (upd (upd (upd (upd (upd (upd iv 21 (nI (0))) 22 p22_6) 25 (nI k25_191)) 29 (nI p_7)) 30 (nI d_8)) 31 (nI q_9)) (uF (uF fv 19 f19_10) 28 f28_11) gv) H := hP1
  have hD : va_D A (mw h0 ad cs (upd (upd (upd (upd (upd (upd iv 21 (nI (0))) 22 p22_6) 25 (nI k25_191)) 29 (nI p_7)) 30 (nI d_8)) 31 (nI q_9)) (uF (uF fv 19 f19_10) 28 f28_11) gv) := hD1.weaken (fun _ _ _ h => hFc _ h)
  refine lv_istore_n (lv' := [(3, .int r_189), (1, .int (nI du_2)), (2, .int (nI mo_3)), (0, .ref h0)]) hx hb dX9_either_34 rfl hl (by decide) rfl (fun ls hl => ?_)
  refine lv_aload_n hx hb dX9_either_35 rfl (lv_at hl 3 rfl) ?_
  have hFc := free_all hD hS hA
  refine va_calli (va_runV (As := []) (rest := []) ⟨hx, hb, hml, hown, hts⟩ (m_peek l D h0 ad cs (upd (upd (upd (upd (upd (upd iv 21 (nI (0))) 22 p22_6) 25 (nI k25_191)) 29 (nI p_7)) 30 (nI d_8)) 31 (nI q_9)) (uF (uF fv 19 f19_10) 28 f28_11) gv k25_191 n26  H.size rfl h26 (by omega) (by omega)) (cwV 0 hts gX9_either_X9_peek rfl rfl rfl (by decide +kernel) ⟨Nat.le_of_ble_eq_true rfl, Nat.le_of_ble_eq_true rfl⟩) ⟨fun a U g mk q => by obtain ⟨q0, q1, qP, qK, qD⟩ := q; exact ⟨q0, q1, qP, va_K.moved (u := U) (U := U.calling g mk a) (Vm.Alike.refl U.vm) qK, qD⟩, va_recv hK hP (ci := 9) (q0 := 0) rfl rfl, fun U hU hW => ⟨rfl, by rw [hU], by rw [hU]; exact hP, va_K.moved hW.alike hK, hD.weaken (fun _ _ _ _ => trivial)⟩⟩ rfl rfl hl.1 rfl (lv_room (Nat.le_of_ble_eq_true rfl)) dX9_either_36 ⟨Nat.le_of_ble_eq_true rfl, Nat.le_of_ble_eq_true rfl⟩) hS (fun q _ h => hFc q h) hFc (fun r_198 u t H1 locs ht hvm w_199 hB hz1 hk1 hS => ?_)
  subst w_199
  obtain ⟨k25_200, q_201, q_202, q_203, q_204, q_205, hP1, hK1, hD1⟩ := hB
  replace q_203 : (k25_191 = n26 ∨ ¬ blk ((fv 0) k25_191)) → k25_200 = k25_191 := q_203
  replace q_204 : PKD ((fv 0)) n26 k25_200 r_198 := q_204
  replace q_205 : isRn blk ((fv 0)) n26 k25_191 k25_200 := q_205
  rw [ht] at hP1
  have hK := va_K.moved hvm.symm hK1
  generalize H1 = H at hP1 hS ⊢
  have hP : va_P D vwCl (mw h0 ad cs (upd (upd (upd (upd (upd (upd iv 21 (nI (0))) 22 p22_6) 25 (nI k25_200)) 29 (nI p_7)) 30 (nI d_8)) 31 (nI q_9)) (uF (uF fv 19 f19_10) 28 f28_11) gv) H := hP1
  have hD : va_D A (mw h0 ad cs (upd (upd (upd (upd (upd (upd iv 21 (nI (0))) 22 p22_6) 25 (nI k25_200)) 29 (nI p_7)) 30 (nI d_8)) 31 (nI q_9)) (uF (uF fv 19 f19_10) 28 f28_11) gv) := hD1.weaken (fun _ _ _ h => hFc _ h)
  have hid_210 : k25_200 = k25_191 := q_203 q_194
  have hr8 : Rch (fv 0) n26 (0, skB (fv 0) n26 n25, [], []) (1 - du_2, k25_200, sg_16, Tm_17) := by rw [hid_210, ← q_197.eq]; exact hr9
  have hskb : skB (fv 0) n26 k25_200 = k25_200 := pcB.sk ⟨by omega, by rw [hid_210]; exact q_194⟩
  have hr0 : (r_189 = (-1) ∧ k25_200 = n26) ∨ (k25_200 < n26 ∧ r_189 = fv 0 k25_200) := by rw [hid_210]; exact q_196
  rcases q_204 with ⟨rfl, hw_211⟩ | ⟨c_206, e_207, rfl, he_208, hc_209, hw_211⟩
  · refine lv_istore (lv' := [(4, .int (-1)), (3, .int r_189), (1, .int (nI du_2)), (2, .int (nI mo_3)), (0, .ref h0)]) hx hb dX9_either_39 hl (by decide) rfl (fun ls hl => ?_)
    refine lv_iload_n hx hb dX9_either_41 rfl (lv_at hl 2 rfl) ?_
    refine lv_if_eq (tgt := 76) hx hb dX9_either_42 (by decide) (fun c_212 => ?_) (fun c_212 => ?_)
    · have d_213 := n_eq (a := du_2) (b := 0) (by omega) (by omega) c_212
      obtain rfl : du_2 = 0 := by omega
      have hr7 : Rch (fv 0) n26 (0, skB (fv 0) n26 n25, [], []) (1, k25_200, sg_16, Tm_17) := hr8
      refine lv_iload_n hx hb dX9_either_76 rfl (lv_at hl 2 rfl) ?_
      refine lv_if_eq (tgt := 93) hx hb dX9_either_77 (by decide) (fun c_214 => ?_) (fun c_214 => absurd (by decide) c_214)
      refine lv_iload hx hb dX9_either_93 (lv_at hl 0 rfl) ?_
      refine lv_iconst (v := 2) hx hb dX9_either_95 (by decide) ?_
      refine lv_icmp_eq (tgt := 105) hx hb dX9_either_96 (by decide) (fun c_215 => absurd c_215 (by decide)) (fun c_215 => ?_)
      refine lv_iload hx hb dX9_either_99 (lv_at hl 0 rfl) ?_
      refine lv_iconst (v := 1) hx hb dX9_either_101 (by decide) ?_
      refine lv_icmp_ne (tgt := 145) hx hb dX9_either_102 (by decide) (fun c_216 => ?_) (fun c_216 => absurd c_216 (by decide))
      refine lv_iload_n hx hb dX9_either_145 rfl (lv_at hl 1 rfl) ?_
      refine lv_bipush (v := 41) hx hb dX9_either_146 (by decide) ?_
      refine lv_icmp_ne (tgt := 200) hx hb dX9_either_148 (by decide) (fun c_217 => ?_) (fun c_217 => ?_)
      · refine lv_iconst (v := 0) hx hb dX9_either_200 (by decide) ?_
        refine lv_istore_n (lv' := [(2, .int 0), (4, .int (-1)), (3, .int r_189), (1, .int (nI (0))), (0, .ref h0)]) hx hb dX9_either_201 rfl hl (by decide) rfl (fun ls hl => ?_)
        refine lv_goto (tgt := 19) hx hb dX9_either_202 (by decide) ?_
        exact ih_1 (0, 0, k25_200, 0, p22_6, p_7, d_8, q_9, f19_10, f28_11, x_12, y_13, j_14, k_15, sg_16, Tm_17) (mw h0 ad cs (upd (upd (upd (upd (upd (upd iv 21 (nI 0)) 22 p22_6) 25 (nI k25_200)) 29 (nI p_7)) 30 (nI d_8)) 31 (nI q_9)) (uF (uF fv 19 f19_10) 28 f28_11) gv) _ _ ls (by show 2 * (n26 - k25_200) + 0 + (1 - 0) < 2 * (n26 - a_4) + mo_3 + (1 - (0)); omega) ⟨rfl, (show 0 ≤ 1 from by omega), (show 0 ≤ 1 from by omega), (show 1 ≤ 0 ∨ 0 = 0 from by omega), (show k25_200 ≤ n26 from by omega), (show 2 * (d_8 + j_14 + x_12) ≤ k25_200 from by omega), (show 0 ≤ 3 from by omega), (show pil f28_11 p_7 x_12 y_13 j_14 k_15 from hp_24), (show q_9 = x_12 + y_13 from by omega), (show x_12 + y_13 ≤ 6 from by omega), (show 1 ≤ 0 ∨ cfr f19_10 (200 * n14) Tm_17 (200 * n14 + d_8) from Or.inr hw_188), (show ∀ i : Nat, i < 200 * n14 → f19_10 i = fv 19 i from hfr_28), (show plS f28_11 sg_16 from hpl_29), (show p_7 = sg_16.length from hpn_30), (show q_9 = dep sg_16 from by omega), (show 0 = 0 → 0 = 1 → Rch (fv 0) n26 (0, skB (fv 0) n26 n25, [], []) (1 - 0, skB (fv 0) n26 k25_200, sg_16, Tm_17) from fun _ h9 => absurd h9 (by omega)), (show ¬ 0 = 0 → rcF (fv 0) n26 (0, skB (fv 0) n26 n25, [], []) 0 p22_6 from fun h9 => absurd rfl h9), (show 0 = 0 → 0 = 0 → eiE (fv 0) n26 (0, skB (fv 0) n26 n25, [], []) sg_16 Tm_17 k25_200 from (fun _ _ => ⟨hr7, by omega, (fun h9 => hr0.elim (fun z9 => by omega) (fun z9 => c_217 (z9.2.trans h9.1.2))), hskb⟩)), (show 0 = 0 → p22_6 = iv 22 from fun _ => hp0_35 rfl)⟩ hP hD hS (lv_sub hl [3, 0, 4] rfl)
      have hlt41 : k25_191 < n26 := q_196.elim (fun h9 => absurd (h9.1.symm.trans c_217) (by decide)) (fun h9 => h9.1)
      refine lv_aload_n hx hb dX9_either_151 rfl (lv_at hl 4 rfl) ?_
      refine vp_callSi (W.runV (As := []) (rest := []) ⟨hx, hb, hml, hown, hts⟩ (m_brackets l D h0 ad cs (upd (upd (upd (upd (upd (upd iv 21 (nI (0))) 22 p22_6) 25 (nI k25_200)) 29 (nI p_7)) 30 (nI d_8)) 31 (nI q_9)) (uF (uF fv 19 f19_10) 28 f28_11) gv p_7 sg_16 rfl (by omega) hpl_29 hpn_30) (cwV 0 hts gX9_either_X9_brackets rfl rfl rfl (by decide +kernel) ⟨Nat.le_of_ble_eq_true rfl, Nat.le_of_ble_eq_true rfl⟩) ⟨fun a U g mk q => ⟨q.1, q.2.1, va_K.moved (u := U) (U := U.calling g mk a) (Vm.Alike.refl U.vm) q.2.2⟩, va_recv hK hP (ci := 9) (q0 := 0) rfl rfl, fun U hU hW => ⟨rfl, by rw [hU]; exact hP, va_K.moved hW.alike hK⟩⟩ rfl rfl hl.1 rfl (lv_room (Nat.le_of_ble_eq_true rfl)) dX9_either_152 ⟨Nat.le_of_ble_eq_true rfl, Nat.le_of_ble_eq_true rfl⟩) (fun r_218 k_219 => ?_)
      obtain ⟨b_220, rfl, hb_221, hb_222, hb_223⟩ := k_219
      refine lv_if_le (tgt := 200) hx hb dX9_either_155 (by decide) (fun c_224 => ?_) (fun c_224 => ?_)
      · have d_225 := n_le (a := b_220) (b := 0) (by omega) (by omega) c_224
        refine lv_iconst (v := 0) hx hb dX9_either_200 (by decide) ?_
        refine lv_istore_n (lv' := [(2, .int 0), (4, .int (-1)), (3, .int r_189), (1, .int (nI (0))), (0, .ref h0)]) hx hb dX9_either_201 rfl hl (by decide) rfl (fun ls hl => ?_)
        refine lv_goto (tgt := 19) hx hb dX9_either_202 (by decide) ?_
        exact ih_1 (0, 0, k25_200, 0, p22_6, p_7, d_8, q_9, f19_10, f28_11, x_12, y_13, j_14, k_15, sg_16, Tm_17) (mw h0 ad cs (upd (upd (upd (upd (upd (upd iv 21 (nI 0)) 22 p22_6) 25 (nI k25_200)) 29 (nI p_7)) 30 (nI d_8)) 31 (nI q_9)) (uF (uF fv 19 f19_10) 28 f28_11) gv) _ _ ls (by show 2 * (n26 - k25_200) + 0 + (1 - 0) < 2 * (n26 - a_4) + mo_3 + (1 - (0)); omega) ⟨rfl, (show 0 ≤ 1 from by omega), (show 0 ≤ 1 from by omega), (show 1 ≤ 0 ∨ 0 = 0 from by omega), (show k25_200 ≤ n26 from by omega), (show 2 * (d_8 + j_14 + x_12) ≤ k25_200 from by omega), (show 0 ≤ 3 from by omega), (show pil f28_11 p_7 x_12 y_13 j_14 k_15 from hp_24), (show q_9 = x_12 + y_13 from by omega), (show x_12 + y_13 ≤ 6 from by omega), (show 1 ≤ 0 ∨ cfr f19_10 (200 * n14) Tm_17 (200 * n14 + d_8) from Or.inr hw_188), (show ∀ i : Nat, i < 200 * n14 → f19_10 i = fv 19 i from hfr_28), (show plS f28_11 sg_16 from hpl_29), (show p_7 = sg_16.length from hpn_30), (show q_9 = dep sg_16 from by omega), (show 0 = 0 → 0 = 1 → Rch (fv 0) n26 (0, skB (fv 0) n26 n25, [], []) (1 - 0, skB (fv 0) n26 k25_200, sg_16, Tm_17) from fun _ h9 => absurd h9 (by omega)), (show ¬ 0 = 0 → rcF (fv 0) n26 (0, skB (fv 0) n26 n25, [], []) 0 p22_6 from fun h9 => absurd rfl h9), (show 0 = 0 → 0 = 0 → eiE (fv 0) n26 (0, skB (fv 0) n26 n25, [], []) sg_16 Tm_17 k25_200 from (fun _ _ => ⟨hr7, by omega, (fun h9 => absurd h9.2 (by omega)), hskb⟩)), (show 0 = 0 → p22_6 = iv 22 from fun _ => hp0_35 rfl)⟩ hP hD hS (lv_sub hl [3, 0, 4] rfl)
      have d_226 := n_nle (a := b_220) (b := 0) (by omega) (by omega) c_224
      obtain ⟨i9, hi9, hi8⟩ := hb_222.resolve_left (by omega)
      have hbk : 0 < brk sg_16 := by omega
      have hb41 : k25_200 < n26 ∧ fv 0 k25_200 = 41 := hr0.elim (fun h9 => absurd (h9.1.symm.trans c_217) (by decide)) (fun h9 => ⟨h9.1, h9.2.symm.trans c_217⟩)
      refine lv_aload_n hx hb dX9_either_158 rfl (lv_at hl 4 rfl) ?_
      refine lv_iconst (v := 1) hx hb dX9_either_159 (by decide) ?_
      have hFc := free_all hD hS hA
      refine va_callv (va_runV (As := [.int 1]) (rest := []) ⟨hx, hb, hml, hown, hts⟩ (m_joins l D h0 ad cs (upd (upd (upd (upd (upd (upd iv 21 (nI (0))) 22 p22_6) 25 (nI k25_200)) 29 (nI p_7)) 30 (nI d_8)) 31 (nI q_9)) (uF (uF fv 19 f19_10) 28 f28_11) gv n14 p_7 d_8 1 x_12 y_13 j_14 k_15 sg_16 H.size h14 rfl rfl (by omega) (by omega) hp_24 (by omega) (by omega) hpl_29 hpn_30) (cwV 1 hts gX9_either_X9_joins rfl rfl rfl (by decide +kernel) ⟨Nat.le_of_ble_eq_true rfl, Nat.le_of_ble_eq_true rfl⟩) ⟨fun a U g mk q => by obtain ⟨q0, q1, qP, qK, qD⟩ := q; exact ⟨q0, q1, qP, va_K.moved (u := U) (U := U.calling g mk a) (Vm.Alike.refl U.vm) qK, qD⟩, va_recv hK hP (ci := 9) (q0 := 0) rfl rfl, fun U hU hW => ⟨rfl, by rw [hU], by rw [hU]; exact hP, va_K.moved hW.alike hK, hD.weaken (fun _ _ _ _ => trivial)⟩⟩ rfl rfl hl.1 rfl (lv_room (Nat.le_of_ble_eq_true rfl)) dX9_either_160 ⟨Nat.le_of_ble_eq_true rfl, Nat.le_of_ble_eq_true rfl⟩) hS (fun q _ h => hFc q h) hFc (fun u t H1 locs ht hvm w_228 hB hz1 hk1 hS => ?_)
      obtain ⟨k29_229, k30_230, f19_231, gj2_232, gk2_233, q_234, q_235, q_236, q_237, q_238, q_239, q_240, q_241, q_242, q_243, hP1, hK1, hD1⟩ := hB
      replace q_234 : pil ((f28_11)) k29_229 x_12 y_13 gj2_232 gk2_233 := q_234
      replace q_238 : ∀ i : Nat, k29_229 ≤ i → i < p_7 → (f28_11) i = 1 ∨ (f28_11) i = 2 := q_238
      replace q_239 : ∀ i : Nat, i < 200 * n14 → f19_231 i = (f19_10) i := q_239
      replace q_240 : ∀ T9 : List Tk, cfr ((f19_10)) (200 * n14) T9 (200 * n14 + d_8) → cfr f19_231 (200 * n14) (T9 ++ eW 1 sg_16) (200 * n14 + k30_230) := q_240
      replace q_242 : plS ((f28_11)) (jW 1 sg_16) := q_242
      rw [ht] at hP1
      have hK := va_K.moved hvm.symm hK1
      generalize H1 = H at hP1 hS ⊢
      have hP : va_P D vwCl (mw h0 ad cs (upd (upd (upd (upd (upd (upd iv 21 (nI (0))) 22 p22_6) 25 (nI k25_200)) 29 (nI k29_229)) 30 (nI k30_230)) 31 (nI q_9)) (uF (uF fv 19 f19_231) 28 f28_11) gv) H := hP1
      have hD : va_D A (mw h0 ad cs (upd (upd (upd (upd (upd (upd iv 21 (nI (0))) 22 p22_6) 25 (nI k25_200)) 29 (nI k29_229)) 30 (nI k30_230)) 31 (nI q_9)) (uF (uF fv 19 f19_231) 28 f28_11) gv) := hD1.weaken (fun _ _ _ h => hFc _ h)
      have hjl : plS f28_11 (jO sg_16) := q_242
      have hjn : k29_229 = (jO sg_16).length := q_243
      have hfr_244 : ∀ i : Nat, i < 200 * n14 → f19_231 i = fv 19 i := fun i h9 => (q_239 i h9).trans (hfr_28 i h9)
      have hw_245 : cfr f19_231 (200 * n14) (Tm_17 ++ eO sg_16) (200 * n14 + k30_230) := q_240 _ hw_188
      have hlen2 := q_234.len
      have hk1 : 1 ≤ k29_229 := (Nat.lt_or_ge i9 k29_229).elim (fun q => by omega) (fun q => absurd hi8 (nj12 (q_238 i9 q hi9)))
      obtain rfl : gk2_233 = 0 := by omega
      obtain ⟨hb_246, x_247, y_248, k_249, hxy_250, hx_251, hp_252⟩ := q_234.popB hk1
      obtain ⟨sq, eq9, lq, plq, dq⟩ := pl_cl hjl hjn hbk
      have hrq : Rch (fv 0) n26 (0, skB (fv 0) n26 n25, [], []) (1, nxF (fv 0) n26 k25_200, pN sq, (Tm_17 ++ eO sg_16) ++ eN sq) := by have h9 := hr7.st (st_close hb41 hbk); rw [eq9] at h9; exact h9
      refine lv_aload_n hx hb dX9_either_163 rfl (lv_at hl 4 rfl) ?_
      refine lv_dup hx hb dX9_either_164 rfl ?_
      refine va_get (D := D) (ci := 9) (v := .int (nI k29_229)) (C := RX9) (T := TX9) (N := 44) hx hb hts hin9 hown hK hP 0 rfl rfl 29 (by decide) (hts (.fieldLink RX9 99 "HoneyHouseModel" "piled" "I") (List.mem_of_getElem? (i := 1) rfl)) (fun _ h9 => h9) rfl dX9_either_165 ?_
      refine lv_iconst (v := 1) hx hb dX9_either_168 (by decide) ?_
      refine lv_isub hx hb dX9_either_169 ?_
      refine tp_i (y := nI (k29_229 - 1)) (pk_sub (a := k29_229) (b := 1) (by omega)) ?_
      refine va_put (D := D) (ci := 9) (v := .int (nI (k29_229 - 1))) (ty := .int) (C := RX9) (T := TX9) (N := 44) hx hb hts hin9 tyX9 tyX9_ok nmX9 hown hK hP hD hS 0 rfl rfl 29 (by decide) (hts (.fieldLink RX9 99 "HoneyHouseModel" "piled" "I") (List.mem_of_getElem? (i := 1) rfl)) (fun _ h9 => h9) rfl (tyX9_ok 29 (by decide)) rfl rfl (Nat.le_of_ble_eq_true rfl) dX9_either_170 (fun H locs hP hD hS => ?_)
      have hP : va_P D vwCl (mw h0 ad cs (upd (upd (upd (upd (upd (upd iv 21 (nI (0))) 22 p22_6) 25 (nI k25_200)) 29 (nI (k29_229 - 1))) 30 (nI k30_230)) 31 (nI q_9)) (uF (uF fv 19 f19_231) 28 f28_11) gv) H := hP
      have hD : va_D A (mw h0 ad cs (upd (upd (upd (upd (upd (upd iv 21 (nI (0))) 22 p22_6) 25 (nI k25_200)) 29 (nI (k29_229 - 1))) 30 (nI k30_230)) 31 (nI q_9)) (uF (uF fv 19 f19_231) 28 f28_11) gv) := hD
      refine lv_aload_n hx hb dX9_either_173 rfl (lv_at hl 4 rfl) ?_
      refine lv_dup hx hb dX9_either_174 rfl ?_
      refine va_get (D := D) (ci := 9) (v := .int (nI q_9)) (C := RX9) (T := TX9) (N := 44) hx hb hts hin9 hown hK hP 0 rfl rfl 31 (by decide) (hts (.fieldLink RX9 105 "HoneyHouseModel" "deep" "I") (List.mem_of_getElem? (i := 3) rfl)) (fun _ h9 => h9) rfl dX9_either_175 ?_
      refine lv_iconst (v := 1) hx hb dX9_either_178 (by decide) ?_
      refine lv_isub hx hb dX9_either_179 ?_
      refine tp_i (y := nI (q_9 - 1)) (pk_sub (a := q_9) (b := 1) (by omega)) ?_
      refine va_put (D := D) (ci := 9) (v := .int (nI (q_9 - 1))) (ty := .int) (C := RX9) (T := TX9) (N := 44) hx hb hts hin9 tyX9 tyX9_ok nmX9 hown hK hP hD hS 0 rfl rfl 31 (by decide) (hts (.fieldLink RX9 105 "HoneyHouseModel" "deep" "I") (List.mem_of_getElem? (i := 3) rfl)) (fun _ h9 => h9) rfl (tyX9_ok 31 (by decide)) rfl rfl (Nat.le_of_ble_eq_true rfl) dX9_either_180 (fun H locs hP hD hS => ?_)
      have hP : va_P D vwCl (mw h0 ad cs (upd (upd (upd (upd (upd (upd iv 21 (nI (0))) 22 p22_6) 25 (nI k25_200)) 29 (nI (k29_229 - 1))) 30 (nI k30_230)) 31 (nI (q_9 - 1))) (uF (uF fv 19 f19_231) 28 f28_11) gv) H := hP
      have hD : va_D A (mw h0 ad cs (upd (upd (upd (upd (upd (upd iv 21 (nI (0))) 22 p22_6) 25 (nI k25_200)) 29 (nI (k29_229 - 1))) 30 (nI k30_230)) 31 (nI (q_9 - 1))) (uF (uF fv 19 f19_231) 28 f28_11) gv) := hD
      refine lv_aload_n hx hb dX9_either_183 rfl (lv_at hl 4 rfl) ?_
      refine lv_dup hx hb dX9_either_184 rfl ?_
      refine va_get (D := D) (ci := 9) (v := .int (nI k25_200)) (C := RX9) (T := TX9) (N := 44) hx hb hts hin9 hown hK hP 0 rfl rfl 25 (by decide) (hts (.fieldLink RX9 87 "HoneyHouseModel" "at" "I") (List.mem_of_getElem? (i := 6) rfl)) (fun _ h9 => h9) rfl dX9_either_185 ?_
      refine lv_iconst (v := 1) hx hb dX9_either_188 (by decide) ?_
      refine lv_iadd hx hb dX9_either_189 ?_
      refine tp_i (y := nI (k25_200 + 1)) (nI_add k25_200 1) ?_
      refine va_put (D := D) (ci := 9) (v := .int (nI (k25_200 + 1))) (ty := .int) (C := RX9) (T := TX9) (N := 44) hx hb hts hin9 tyX9 tyX9_ok nmX9 hown hK hP hD hS 0 rfl rfl 25 (by decide) (hts (.fieldLink RX9 87 "HoneyHouseModel" "at" "I") (List.mem_of_getElem? (i := 6) rfl)) (fun _ h9 => h9) rfl (tyX9_ok 25 (by decide)) rfl rfl (Nat.le_of_ble_eq_true rfl) dX9_either_190 (fun H locs hP hD hS => ?_)
      have hP : va_P D vwCl (mw h0 ad cs (upd (upd (upd (upd (upd (upd iv 21 (nI (0))) 22 p22_6) 25 (nI (k25_200 + 1))) 29 (nI (k29_229 - 1))) 30 (nI k30_230)) 31 (nI (q_9 - 1))) (uF (uF fv 19 f19_231) 28 f28_11) gv) H := hP
      have hD : va_D A (mw h0 ad cs (upd (upd (upd (upd (upd (upd iv 21 (nI (0))) 22 p22_6) 25 (nI (k25_200 + 1))) 29 (nI (k29_229 - 1))) 30 (nI k30_230)) 31 (nI (q_9 - 1))) (uF (uF fv 19 f19_231) 28 f28_11) gv) := hD
      refine lv_aload_n hx hb dX9_either_193 rfl (lv_at hl 4 rfl) ?_
      have hFc := free_all hD hS hA
      refine va_callv (va_runV (As := []) (rest := []) ⟨hx, hb, hml, hown, hts⟩ (m_nots l D h0 ad cs (upd (upd (upd (upd (upd (upd iv 21 (nI (0))) 22 p22_6) 25 (nI (k25_200 + 1))) 29 (nI (k29_229 - 1))) 30 (nI k30_230)) 31 (nI (q_9 - 1))) (uF (uF fv 19 f19_231) 28 f28_11) gv n14 (k29_229 - 1) k30_230 (q_9 - 1) x_247 y_248 gj2_232 k_249 sq H.size h14 rfl rfl rfl (by omega) hp_252 (by omega) (by omega) (by omega) plq (by omega)) (cwV 0 hts gX9_either_X9_nots rfl rfl rfl (by decide +kernel) ⟨Nat.le_of_ble_eq_true rfl, Nat.le_of_ble_eq_true rfl⟩) ⟨fun a U g mk q => by obtain ⟨q0, q1, qP, qK, qD⟩ := q; exact ⟨q0, q1, qP, va_K.moved (u := U) (U := U.calling g mk a) (Vm.Alike.refl U.vm) qK, qD⟩, va_recv hK hP (ci := 9) (q0 := 0) rfl rfl, fun U hU hW => ⟨rfl, by rw [hU], by rw [hU]; exact hP, va_K.moved hW.alike hK, hD.weaken (fun _ _ _ _ => trivial)⟩⟩ rfl rfl hl.1 rfl (lv_room (Nat.le_of_ble_eq_true rfl)) dX9_either_194 ⟨Nat.le_of_ble_eq_true rfl, Nat.le_of_ble_eq_true rfl⟩) hS (fun q _ h => hFc q h) hFc (fun u t H1 locs ht hvm w_254 hB hz1 hk1 hS => ?_)
      obtain ⟨k29_255, k30_256, k31_257, f19_258, gx2_259, gk2_260, q_261, q_262, q_263, q_264, q_265, q_266, q_267, q_268, q_269, hP1, hK1, hD1⟩ := hB
      replace q_261 : pil ((f28_11)) k29_255 gx2_259 y_248 gj2_232 gk2_260 := q_261
      replace q_265 : ∀ i : Nat, i < 200 * n14 → f19_258 i = (f19_231) i := q_265
      replace q_266 : ∀ T9 : List Tk, cfr ((f19_231)) (200 * n14) T9 (200 * n14 + k30_230) → cfr f19_258 (200 * n14) (T9 ++ eN sq) (200 * n14 + k30_256) := q_266
      replace q_267 : plS ((f28_11)) (pN sq) := q_267
      rw [ht] at hP1
      have hK := va_K.moved hvm.symm hK1
      generalize H1 = H at hP1 hS ⊢
      have hP : va_P D vwCl (mw h0 ad cs (upd (upd (upd (upd (upd (upd iv 21 (nI (0))) 22 p22_6) 25 (nI (k25_200 + 1))) 29 (nI k29_255)) 30 (nI k30_256)) 31 (nI k31_257)) (uF (uF fv 19 f19_258) 28 f28_11) gv) H := hP1
      have hD : va_D A (mw h0 ad cs (upd (upd (upd (upd (upd (upd iv 21 (nI (0))) 22 p22_6) 25 (nI (k25_200 + 1))) 29 (nI k29_255)) 30 (nI k30_256)) 31 (nI k31_257)) (uF (uF fv 19 f19_258) 28 f28_11) gv) := hD1.weaken (fun _ _ _ h => hFc _ h)
      have hfr_270 : ∀ i : Nat, i < 200 * n14 → f19_258 i = fv 19 i := fun i h9 => (q_265 i h9).trans (hfr_244 i h9)
      refine lv_goto (tgt := 202) hx hb dX9_either_197 (by decide) ?_
      refine lv_goto (tgt := 19) hx hb dX9_either_202 (by decide) ?_
      exact ih_1 (0, mo_3, k25_200 + 1, 0, p22_6, k29_255, k30_256, k31_257, f19_258, f28_11, gx2_259, y_248, gj2_232, gk2_260, pN sq, (Tm_17 ++ eO sg_16) ++ eN sq) (mw h0 ad cs (upd (upd (upd (upd (upd (upd iv 21 (nI 0)) 22 p22_6) 25 (nI (k25_200 + 1))) 29 (nI k29_255)) 30 (nI k30_256)) 31 (nI k31_257)) (uF (uF fv 19 f19_258) 28 f28_11) gv) _ _ ls (by show 2 * (n26 - (k25_200 + 1)) + mo_3 + (1 - 0) < 2 * (n26 - a_4) + mo_3 + (1 - (0)); omega) ⟨rfl, (show 0 ≤ 1 from by omega), (show mo_3 ≤ 1 from by omega), (show 1 ≤ mo_3 ∨ 0 = 0 from by omega), (show (k25_200 + 1) ≤ n26 from by omega), (show 2 * (k30_256 + gj2_232 + gx2_259) ≤ (k25_200 + 1) from by omega), (show 0 ≤ 3 from by omega), (show pil f28_11 k29_255 gx2_259 y_248 gj2_232 gk2_260 from q_261), (show k31_257 = gx2_259 + y_248 from by omega), (show gx2_259 + y_248 ≤ 6 from by omega), (show 1 ≤ 0 ∨ cfr f19_258 (200 * n14) ((Tm_17 ++ eO sg_16) ++ eN sq) (200 * n14 + k30_256) from Or.inr (q_266 _ hw_245)), (show ∀ i : Nat, i < 200 * n14 → f19_258 i = fv 19 i from hfr_270), (show plS f28_11 (pN sq) from q_267), (show k29_255 = (pN sq).length from q_268), (show k31_257 = dep (pN sq) from by omega), (show 0 = 0 → mo_3 = 1 → Rch (fv 0) n26 (0, skB (fv 0) n26 n25, [], []) (1 - 0, skB (fv 0) n26 (k25_200 + 1), (pN sq), ((Tm_17 ++ eO sg_16) ++ eN sq)) from (fun _ _ => by rw [show skB (fv 0) n26 (k25_200 + 1) = nxF (fv 0) n26 k25_200 from nx_4 (wd_41 hb41).2 rfl]; exact hrq)), (show ¬ 0 = 0 → rcF (fv 0) n26 (0, skB (fv 0) n26 n25, [], []) 0 p22_6 from fun h9 => absurd rfl h9), (show mo_3 = 0 → 0 = 0 → eiE (fv 0) n26 (0, skB (fv 0) n26 n25, [], []) (pN sq) ((Tm_17 ++ eO sg_16) ++ eN sq) (k25_200 + 1) from fun h9 => by omega), (show 0 = 0 → p22_6 = iv 22 from fun _ => hp0_35 rfl)⟩ hP hD hS (lv_sub hl [2, 3, 4] rfl)
    have d_271 := n_ne (a := du_2) (b := 0) (by omega) (by omega) c_212
    obtain rfl : du_2 = 1 := by omega
    have hr7 : Rch (fv 0) n26 (0, skB (fv 0) n26 n25, [], []) (0, k25_200, sg_16, Tm_17) := hr8
    refine lv_iload_n hx hb dX9_either_45 rfl (lv_at hl 1 rfl) ?_
    refine lv_bipush (v := 40) hx hb dX9_either_46 (by decide) ?_
    refine lv_icmp_eq (tgt := 57) hx hb dX9_either_48 (by decide) (fun c_272 => ?_) (fun c_272 => ?_)
    · have hlt40 : k25_191 < n26 := q_196.elim (fun h9 => absurd (h9.1.symm.trans c_272) (by decide)) (fun h9 => h9.1)
      refine lv_aload_n hx hb dX9_either_57 rfl (lv_at hl 4 rfl) ?_
      refine lv_iload_n hx hb dX9_either_58 rfl (lv_at hl 1 rfl) ?_
      refine lv_bipush (v := 40) hx hb dX9_either_59 (by decide) ?_
      refine lv_icmp_ne (tgt := 69) hx hb dX9_either_61 (by decide) (fun c_273 => absurd (c_272) c_273) (fun c_273 => ?_)
      refine lv_bipush (v := 12) hx hb dX9_either_64 (by decide) ?_
      refine lv_goto (tgt := 70) hx hb dX9_either_66 (by decide) ?_
      have hFc := free_all hD hS hA
      refine va_callv (va_runV (As := [.int 12]) (rest := []) ⟨hx, hb, hml, hown, hts⟩ (m_opens l D h0 ad cs (upd (upd (upd (upd (upd (upd iv 21 (nI (0))) 22 p22_6) 25 (nI k25_200)) 29 (nI p_7)) 30 (nI d_8)) 31 (nI q_9)) (uF (uF fv 19 f19_10) 28 f28_11) gv 0 k25_200 n26 p_7 q_9 12 x_12 y_13 j_14 k_15 sg_16 H.size rfl rfl h26 rfl rfl (by omega) (by omega) (by omega) hp_24 (by omega) (by omega) (Or.inl ⟨rfl, by omega⟩) hpl_29 hpn_30) (cwV 1 hts gX9_either_X9_opens rfl rfl rfl (by decide +kernel) ⟨Nat.le_of_ble_eq_true rfl, Nat.le_of_ble_eq_true rfl⟩) ⟨fun a U g mk q => by obtain ⟨q0, q1, qP, qK, qD⟩ := q; exact ⟨q0, q1, qP, va_K.moved (u := U) (U := U.calling g mk a) (Vm.Alike.refl U.vm) qK, qD⟩, va_recv hK hP (ci := 9) (q0 := 0) rfl rfl, fun U hU hW => ⟨rfl, by rw [hU], by rw [hU]; exact hP, va_K.moved hW.alike hK, hD.weaken (fun _ _ _ _ => trivial)⟩⟩ rfl rfl hl.1 rfl (lv_room (Nat.le_of_ble_eq_true rfl)) dX9_either_70 ⟨Nat.le_of_ble_eq_true rfl, Nat.le_of_ble_eq_true rfl⟩) hS (fun q _ h => hFc q h) hFc (fun u t H1 locs ht hvm w_275 hB hz1 hk1 hS => ?_)
      obtain ⟨k21_276, p22_277, k25_278, k29_279, k31_280, f28_281, q_282, q_283, q_284, q_285, hP1, hK1, hD1⟩ := hB
      replace q_283 : (1 ≤ k21_276 ∧ k25_278 = k25_200 ∧ k29_279 = p_7 ∧ k31_280 = q_9 ∧ f28_281 = (f28_11)) ∨ (k21_276 = 0 ∧ k25_200 + 1 ≤ k25_278 ∧ k25_278 ≤ n26 ∧ k31_280 = q_9 + 1 ∧ q_9 ≤ 5 ∧ ∃ x y : Nat, x + y = x_12 + y_13 + 1 ∧ (x = x_12 ∨ (x = x_12 + 1 ∧ k25_200 + 3 ≤ k25_278)) ∧ pil f28_281 k29_279 x y j_14 0) := q_283
      replace q_285 : k21_276 = 0 → p22_277 = (p22_6) := q_285
      rw [ht] at hP1
      have hK := va_K.moved hvm.symm hK1
      generalize H1 = H at hP1 hS ⊢
      have hP : va_P D vwCl (mw h0 ad cs (upd (upd (upd (upd (upd (upd iv 21 (nI k21_276)) 22 p22_277) 25 (nI k25_278)) 29 (nI k29_279)) 30 (nI d_8)) 31 (nI k31_280)) (uF (uF fv 19 f19_10) 28 f28_281) gv) H := hP1
      have hD : va_D A (mw h0 ad cs (upd (upd (upd (upd (upd (upd iv 21 (nI k21_276)) 22 p22_277) 25 (nI k25_278)) 29 (nI k29_279)) 30 (nI d_8)) 31 (nI k31_280)) (uF (uF fv 19 f19_10) 28 f28_281) gv) := hD1.weaken (fun _ _ _ h => hFc _ h)
      have hb40 : k25_200 < n26 ∧ fv 0 k25_200 = 40 := hr0.elim (fun h9 => absurd (h9.1.symm.trans c_272) (by decide)) (fun h9 => ⟨h9.1, h9.2.symm.trans c_272⟩)
      rcases q_283 with ⟨hpos_286, e25_287, e29_288, e31_289, e28_290⟩ | ⟨rfl, h1_291, h2_292, h3_293, h5_294, x_295, y_296, hxy_297, hx3_298, hp_299⟩
      · obtain ⟨g_300, g_301, g_302⟩ := q_284.resolve_right (fun h9 => by omega)
        refine lv_goto (tgt := 202) hx hb dX9_either_73 (by decide) ?_
        refine lv_goto (tgt := 19) hx hb dX9_either_202 (by decide) ?_
        exact ih_1 (1, mo_3, k25_278, k21_276, p22_277, k29_279, d_8, k31_280, f19_10, f28_281, x_12, y_13, j_14, k_15, sg_16, Tm_17) (mw h0 ad cs (upd (upd (upd (upd (upd (upd iv 21 (nI k21_276)) 22 p22_277) 25 (nI k25_278)) 29 (nI k29_279)) 30 (nI d_8)) 31 (nI k31_280)) (uF (uF fv 19 f19_10) 28 f28_281) gv) _ _ ls (by show 2 * (n26 - k25_278) + mo_3 + (1 - k21_276) < 2 * (n26 - a_4) + mo_3 + (1 - (0)); omega) ⟨rfl, (show 1 ≤ 1 from by omega), (show mo_3 ≤ 1 from by omega), (show 1 ≤ mo_3 ∨ 1 = 0 from by omega), (show k25_278 ≤ n26 from by omega), (show 2 * (d_8 + j_14 + x_12) ≤ k25_278 from by omega), (show k21_276 ≤ 3 from by omega), (show pil f28_281 k29_279 x_12 y_13 j_14 k_15 from (by rw [e28_290, e29_288]; exact hp_24)), (show k31_280 = x_12 + y_13 from by omega), (show x_12 + y_13 ≤ 6 from by omega), (show 1 ≤ k21_276 ∨ cfr f19_10 (200 * n14) Tm_17 (200 * n14 + d_8) from Or.inl (by omega)), (show ∀ i : Nat, i < 200 * n14 → f19_10 i = fv 19 i from hfr_28), (show plS f28_281 sg_16 from (by rw [e28_290]; exact hpl_29)), (show k29_279 = sg_16.length from (by omega)), (show k31_280 = dep sg_16 from by omega), (show k21_276 = 0 → mo_3 = 1 → Rch (fv 0) n26 (0, skB (fv 0) n26 n25, [], []) (1 - 1, skB (fv 0) n26 k25_278, sg_16, Tm_17) from fun h9 _ => absurd h9 (by omega)), (show ¬ k21_276 = 0 → rcF (fv 0) n26 (0, skB (fv 0) n26 n25, [], []) k21_276 p22_277 from fun _ => ⟨k25_200, g_302, by rw [g_301]; exact hr7.st (st_deep (Or.inl hb40) (by omega))⟩), (show mo_3 = 0 → k21_276 = 0 → eiE (fv 0) n26 (0, skB (fv 0) n26 n25, [], []) sg_16 Tm_17 k25_278 from fun h9 => by omega), (show k21_276 = 0 → p22_277 = iv 22 from fun h9 => absurd h9 (by omega))⟩ hP hD hS (lv_sub hl [2, 3, 4] rfl)
      obtain ⟨g_303, -, g_304, g_305, g_306⟩ := q_284.resolve_left (fun h9 => by omega)
      refine lv_goto (tgt := 202) hx hb dX9_either_73 (by decide) ?_
      refine lv_goto (tgt := 19) hx hb dX9_either_202 (by decide) ?_
      exact ih_1 (1, mo_3, k25_278, 0, p22_277, k29_279, d_8, k31_280, f19_10, f28_281, x_295, y_296, j_14, 0, 12 :: sg_16, Tm_17) (mw h0 ad cs (upd (upd (upd (upd (upd (upd iv 21 (nI 0)) 22 p22_277) 25 (nI k25_278)) 29 (nI k29_279)) 30 (nI d_8)) 31 (nI k31_280)) (uF (uF fv 19 f19_10) 28 f28_281) gv) _ _ ls (by show 2 * (n26 - k25_278) + mo_3 + (1 - 0) < 2 * (n26 - a_4) + mo_3 + (1 - (0)); omega) ⟨rfl, (show 1 ≤ 1 from by omega), (show mo_3 ≤ 1 from by omega), (show 1 ≤ mo_3 ∨ 1 = 0 from by omega), (show k25_278 ≤ n26 from by omega), (show 2 * (d_8 + j_14 + x_295) ≤ k25_278 from by omega), (show 0 ≤ 3 from by omega), (show pil f28_281 k29_279 x_295 y_296 j_14 0 from hp_299), (show k31_280 = x_295 + y_296 from by omega), (show x_295 + y_296 ≤ 6 from by omega), (show 1 ≤ 0 ∨ cfr f19_10 (200 * n14) Tm_17 (200 * n14 + d_8) from Or.inr hw_188), (show ∀ i : Nat, i < 200 * n14 → f19_10 i = fv 19 i from hfr_28), (show plS f28_281 (12 :: sg_16) from g_304), (show k29_279 = (12 :: sg_16).length from (by rw [List.length_cons]; omega)), (show k31_280 = dep (12 :: sg_16) from (by rw [dep_y _ (by omega)]; omega)), (show 0 = 0 → mo_3 = 1 → Rch (fv 0) n26 (0, skB (fv 0) n26 n25, [], []) (1 - 1, skB (fv 0) n26 k25_278, (12 :: sg_16), Tm_17) from (fun _ _ => by rw [show skB (fv 0) n26 k25_278 = nxF (fv 0) n26 k25_200 from nx_4 (wd_40 hb40).2 (by omega)]; exact hr7.st (st_open hb40 (by omega)))), (show ¬ 0 = 0 → rcF (fv 0) n26 (0, skB (fv 0) n26 n25, [], []) 0 p22_277 from fun h9 => absurd rfl h9), (show mo_3 = 0 → 0 = 0 → eiE (fv 0) n26 (0, skB (fv 0) n26 n25, [], []) (12 :: sg_16) Tm_17 k25_278 from fun h9 => by omega), (show 0 = 0 → p22_277 = iv 22 from fun _ => (q_285 rfl).trans (hp0_35 rfl))⟩ hP hD hS (lv_sub hl [2, 3, 4] rfl)
    refine lv_iload hx hb dX9_either_51 (lv_at hl 0 rfl) ?_
    refine lv_iconst (v := 3) hx hb dX9_either_53 (by decide) ?_
    refine lv_icmp_ne (tgt := 76) hx hb dX9_either_54 (by decide) (fun c_307 => ?_) (fun c_307 => absurd c_307 (by decide))
    refine lv_iload_n hx hb dX9_either_76 rfl (lv_at hl 2 rfl) ?_
    refine lv_if_eq (tgt := 93) hx hb dX9_either_77 (by decide) (fun c_308 => absurd c_308 (by decide)) (fun c_308 => ?_)
    refine lv_aload_n hx hb dX9_either_80 rfl (lv_at hl 4 rfl) ?_
    have hFc := free_all hD hS hA
    refine va_callv (va_runV (As := []) (rest := []) ⟨hx, hb, hml, hown, hts⟩ (m_test_ l D h0 ad cs (upd (upd (upd (upd (upd (upd iv 21 (nI (0))) 22 p22_6) 25 (nI k25_200)) 29 (nI p_7)) 30 (nI d_8)) 31 (nI q_9)) (uF (uF fv 19 f19_10) 28 f28_11) gv n14 0 k25_200 n26 d_8  H.size h14 rfl rfl h26 rfl (by omega) (by omega) (by omega) (by omega) (by omega)) (cwV 0 hts gX9_either_X9_test_ rfl rfl rfl (by decide +kernel) ⟨Nat.le_of_ble_eq_true rfl, Nat.le_of_ble_eq_true rfl⟩) ⟨fun a U g mk q => by obtain ⟨q0, q1, qP, qK, qD⟩ := q; exact ⟨q0, q1, qP, va_K.moved (u := U) (U := U.calling g mk a) (Vm.Alike.refl U.vm) qK, qD⟩, va_recv hK hP (ci := 9) (q0 := 0) rfl rfl, fun U hU hW => ⟨rfl, by rw [hU], by rw [hU]; exact hP, va_K.moved hW.alike hK, hD.weaken (fun _ _ _ _ => trivial)⟩⟩ rfl rfl hl.1 rfl (lv_room (Nat.le_of_ble_eq_true rfl)) dX9_either_81 ⟨Nat.le_of_ble_eq_true rfl, Nat.le_of_ble_eq_true rfl⟩) hS (fun q _ h => hFc q h) hFc (fun u t H1 locs ht hvm w_310 hB hz1 hk1 hS => ?_)
    obtain ⟨k21_311, p22_312, k25_313, k30_314, f19_315, q_316, q_317, q_318, q_319, q_320, q_321, hP1, hK1, hD1⟩ := hB
    replace q_319 : (1 ≤ k21_311 ∧ k30_314 = d_8 ∧ f19_315 = (f19_10)) ∨ (k21_311 = 0 ∧ k30_314 = d_8 + 4 ∧ k25_200 + 8 ≤ k25_313 ∧ (∀ i : Nat, i < 200 * n14 + d_8 → f19_315 i = (f19_10) i)) := q_319
    replace q_320 : TSX ((fv 0)) n26 (skB ((fv 0)) n26 k25_200) k21_311 p22_312 k25_313 f19_315 (200 * n14 + d_8) := q_320
    replace q_321 : k21_311 = 0 → p22_312 = (p22_6) := q_321
    rw [ht] at hP1
    have hK := va_K.moved hvm.symm hK1
    generalize H1 = H at hP1 hS ⊢
    have hP : va_P D vwCl (mw h0 ad cs (upd (upd (upd (upd (upd (upd iv 21 (nI k21_311)) 22 p22_312) 25 (nI k25_313)) 29 (nI p_7)) 30 (nI k30_314)) 31 (nI q_9)) (uF (uF fv 19 f19_315) 28 f28_11) gv) H := hP1
    have hD : va_D A (mw h0 ad cs (upd (upd (upd (upd (upd (upd iv 21 (nI k21_311)) 22 p22_312) 25 (nI k25_313)) 29 (nI p_7)) 30 (nI k30_314)) 31 (nI q_9)) (uF (uF fv 19 f19_315) 28 f28_11) gv) := hD1.weaken (fun _ _ _ h => hFc _ h)
    have hno : ¬ ((k25_200 < n26 ∧ fv 0 k25_200 = 40) ∨ wdE (fv 0) n26 k25_200 = 3) := fun h9 => h9.elim (fun q9 => hr0.elim (fun z9 => by omega) (fun z9 => c_272 (z9.2.trans q9.2))) (fun q9 => by omega)
    obtain ⟨P_327, w_328, m_329, v_330, ht_331, h_332, h_333⟩ : TSX (fv 0) n26 k25_200 k21_311 p22_312 k25_313 f19_315 (200 * n14 + d_8) := by rw [← hskb]; exact q_320
    rcases q_319 with ⟨hpos_322, e30_323, e19_324⟩ | ⟨rfl, e30_323, h8_325, hfr_326⟩
    · have hfr_334 : ∀ i : Nat, i < 200 * n14 → f19_315 i = fv 19 i := fun i h9 => by rw [e19_324]; exact hfr_28 i h9
      refine lv_aload_n hx hb dX9_either_84 rfl (lv_at hl 4 rfl) ?_
      have hFc := free_all hD hS hA
      refine va_callv (va_runV (As := []) (rest := []) ⟨hx, hb, hml, hown, hts⟩ (m_nots l D h0 ad cs (upd (upd (upd (upd (upd (upd iv 21 (nI k21_311)) 22 p22_312) 25 (nI k25_313)) 29 (nI p_7)) 30 (nI k30_314)) 31 (nI q_9)) (uF (uF fv 19 f19_315) 28 f28_11) gv n14 p_7 k30_314 q_9 x_12 y_13 j_14 k_15 sg_16 H.size h14 rfl rfl rfl (by omega) hp_24 (by omega) (by omega) (by omega) hpl_29 hpn_30) (cwV 0 hts gX9_either_X9_nots rfl rfl rfl (by decide +kernel) ⟨Nat.le_of_ble_eq_true rfl, Nat.le_of_ble_eq_true rfl⟩) ⟨fun a U g mk q => by obtain ⟨q0, q1, qP, qK, qD⟩ := q; exact ⟨q0, q1, qP, va_K.moved (u := U) (U := U.calling g mk a) (Vm.Alike.refl U.vm) qK, qD⟩, va_recv hK hP (ci := 9) (q0 := 0) rfl rfl, fun U hU hW => ⟨rfl, by rw [hU], by rw [hU]; exact hP, va_K.moved hW.alike hK, hD.weaken (fun _ _ _ _ => trivial)⟩⟩ rfl rfl hl.1 rfl (lv_room (Nat.le_of_ble_eq_true rfl)) dX9_either_85 ⟨Nat.le_of_ble_eq_true rfl, Nat.le_of_ble_eq_true rfl⟩) hS (fun q _ h => hFc q h) hFc (fun u t H1 locs ht hvm w_336 hB hz1 hk1 hS => ?_)
      obtain ⟨k29_337, k30_338, k31_339, f19_340, gx2_341, gk2_342, q_343, q_344, q_345, q_346, q_347, q_348, q_349, q_350, q_351, hP1, hK1, hD1⟩ := hB
      replace q_343 : pil ((f28_11)) k29_337 gx2_341 y_13 j_14 gk2_342 := q_343
      replace q_347 : ∀ i : Nat, i < 200 * n14 → f19_340 i = (f19_315) i := q_347
      replace q_348 : ∀ T9 : List Tk, cfr ((f19_315)) (200 * n14) T9 (200 * n14 + k30_314) → cfr f19_340 (200 * n14) (T9 ++ eN sg_16) (200 * n14 + k30_338) := q_348
      replace q_349 : plS ((f28_11)) (pN sg_16) := q_349
      rw [ht] at hP1
      have hK := va_K.moved hvm.symm hK1
      generalize H1 = H at hP1 hS ⊢
      have hP : va_P D vwCl (mw h0 ad cs (upd (upd (upd (upd (upd (upd iv 21 (nI k21_311)) 22 p22_312) 25 (nI k25_313)) 29 (nI k29_337)) 30 (nI k30_338)) 31 (nI k31_339)) (uF (uF fv 19 f19_340) 28 f28_11) gv) H := hP1
      have hD : va_D A (mw h0 ad cs (upd (upd (upd (upd (upd (upd iv 21 (nI k21_311)) 22 p22_312) 25 (nI k25_313)) 29 (nI k29_337)) 30 (nI k30_338)) 31 (nI k31_339)) (uF (uF fv 19 f19_340) 28 f28_11) gv) := hD1.weaken (fun _ _ _ h => hFc _ h)
      have hfr_352 : ∀ i : Nat, i < 200 * n14 → f19_340 i = fv 19 i := fun i h9 => (q_347 i h9).trans (hfr_334 i h9)
      refine lv_iconst (v := 0) hx hb dX9_either_88 (by decide) ?_
      refine lv_istore_n (lv' := [(1, .int 0), (4, .int (-1)), (3, .int r_189), (2, .int (nI mo_3)), (0, .ref h0)]) hx hb dX9_either_89 rfl hl (by decide) rfl (fun ls hl => ?_)
      refine lv_goto (tgt := 202) hx hb dX9_either_90 (by decide) ?_
      refine lv_goto (tgt := 19) hx hb dX9_either_202 (by decide) ?_
      exact ih_1 (0, mo_3, k25_313, k21_311, p22_312, k29_337, k30_338, k31_339, f19_340, f28_11, gx2_341, y_13, j_14, gk2_342, pN sg_16, Tm_17) (mw h0 ad cs (upd (upd (upd (upd (upd (upd iv 21 (nI k21_311)) 22 p22_312) 25 (nI k25_313)) 29 (nI k29_337)) 30 (nI k30_338)) 31 (nI k31_339)) (uF (uF fv 19 f19_340) 28 f28_11) gv) _ _ ls (by show 2 * (n26 - k25_313) + mo_3 + (1 - k21_311) < 2 * (n26 - a_4) + mo_3 + (1 - (0)); omega) ⟨rfl, (show 0 ≤ 1 from by omega), (show mo_3 ≤ 1 from by omega), (show 1 ≤ mo_3 ∨ 0 = 0 from by omega), (show k25_313 ≤ n26 from by omega), (show 2 * (k30_338 + j_14 + gx2_341) ≤ k25_313 from by omega), (show k21_311 ≤ 3 from by omega), (show pil f28_11 k29_337 gx2_341 y_13 j_14 gk2_342 from q_343), (show k31_339 = gx2_341 + y_13 from by omega), (show gx2_341 + y_13 ≤ 6 from by omega), (show 1 ≤ k21_311 ∨ cfr f19_340 (200 * n14) Tm_17 (200 * n14 + k30_338) from Or.inl (by omega)), (show ∀ i : Nat, i < 200 * n14 → f19_340 i = fv 19 i from hfr_352), (show plS f28_11 (pN sg_16) from q_349), (show k29_337 = (pN sg_16).length from q_350), (show k31_339 = dep (pN sg_16) from by omega), (show k21_311 = 0 → mo_3 = 1 → Rch (fv 0) n26 (0, skB (fv 0) n26 n25, [], []) (1 - 0, skB (fv 0) n26 k25_313, (pN sg_16), Tm_17) from fun h9 _ => absurd h9 (by omega)), (show ¬ k21_311 = 0 → rcF (fv 0) n26 (0, skB (fv 0) n26 n25, [], []) k21_311 p22_312 from fun _ => ⟨P_327, h_333 (by omega), hr7.st (st_tf hno ht_331 (by omega))⟩), (show mo_3 = 0 → k21_311 = 0 → eiE (fv 0) n26 (0, skB (fv 0) n26 n25, [], []) (pN sg_16) Tm_17 k25_313 from fun h9 => by omega), (show k21_311 = 0 → p22_312 = iv 22 from fun h9 => absurd h9 (by omega))⟩ hP hD hS (lv_sub hl [0, 3, 4] rfl)
    have hw_353 : cfr f19_315 (200 * n14) (Tm_17 ++ [(13, w_328, m_329, v_330)]) (200 * n14 + k30_314) := by rw [e30_323]; exact hw_188.te (tst_ok ht_331) hfr_326 (h_332 rfl).2.1 (h_332 rfl).2.2.1 (h_332 rfl).2.2.2.1 (h_332 rfl).2.2.2.2
    have hfr_354 : ∀ i : Nat, i < 200 * n14 → f19_315 i = fv 19 i := fun i h9 => (hfr_326 i (by omega)).trans (hfr_28 i h9)
    refine lv_aload_n hx hb dX9_either_84 rfl (lv_at hl 4 rfl) ?_
    have hFc := free_all hD hS hA
    refine va_callv (va_runV (As := []) (rest := []) ⟨hx, hb, hml, hown, hts⟩ (m_nots l D h0 ad cs (upd (upd (upd (upd (upd (upd iv 21 (nI 0)) 22 p22_312) 25 (nI k25_313)) 29 (nI p_7)) 30 (nI k30_314)) 31 (nI q_9)) (uF (uF fv 19 f19_315) 28 f28_11) gv n14 p_7 k30_314 q_9 x_12 y_13 j_14 k_15 sg_16 H.size h14 rfl rfl rfl (by omega) hp_24 (by omega) (by omega) (by omega) hpl_29 hpn_30) (cwV 0 hts gX9_either_X9_nots rfl rfl rfl (by decide +kernel) ⟨Nat.le_of_ble_eq_true rfl, Nat.le_of_ble_eq_true rfl⟩) ⟨fun a U g mk q => by obtain ⟨q0, q1, qP, qK, qD⟩ := q; exact ⟨q0, q1, qP, va_K.moved (u := U) (U := U.calling g mk a) (Vm.Alike.refl U.vm) qK, qD⟩, va_recv hK hP (ci := 9) (q0 := 0) rfl rfl, fun U hU hW => ⟨rfl, by rw [hU], by rw [hU]; exact hP, va_K.moved hW.alike hK, hD.weaken (fun _ _ _ _ => trivial)⟩⟩ rfl rfl hl.1 rfl (lv_room (Nat.le_of_ble_eq_true rfl)) dX9_either_85 ⟨Nat.le_of_ble_eq_true rfl, Nat.le_of_ble_eq_true rfl⟩) hS (fun q _ h => hFc q h) hFc (fun u t H1 locs ht hvm w_356 hB hz1 hk1 hS => ?_)
    obtain ⟨k29_357, k30_358, k31_359, f19_360, gx2_361, gk2_362, q_363, q_364, q_365, q_366, q_367, q_368, q_369, q_370, q_371, hP1, hK1, hD1⟩ := hB
    replace q_363 : pil ((f28_11)) k29_357 gx2_361 y_13 j_14 gk2_362 := q_363
    replace q_367 : ∀ i : Nat, i < 200 * n14 → f19_360 i = (f19_315) i := q_367
    replace q_368 : ∀ T9 : List Tk, cfr ((f19_315)) (200 * n14) T9 (200 * n14 + k30_314) → cfr f19_360 (200 * n14) (T9 ++ eN sg_16) (200 * n14 + k30_358) := q_368
    replace q_369 : plS ((f28_11)) (pN sg_16) := q_369
    rw [ht] at hP1
    have hK := va_K.moved hvm.symm hK1
    generalize H1 = H at hP1 hS ⊢
    have hP : va_P D vwCl (mw h0 ad cs (upd (upd (upd (upd (upd (upd iv 21 (nI 0)) 22 p22_312) 25 (nI k25_313)) 29 (nI k29_357)) 30 (nI k30_358)) 31 (nI k31_359)) (uF (uF fv 19 f19_360) 28 f28_11) gv) H := hP1
    have hD : va_D A (mw h0 ad cs (upd (upd (upd (upd (upd (upd iv 21 (nI 0)) 22 p22_312) 25 (nI k25_313)) 29 (nI k29_357)) 30 (nI k30_358)) 31 (nI k31_359)) (uF (uF fv 19 f19_360) 28 f28_11) gv) := hD1.weaken (fun _ _ _ h => hFc _ h)
    have hfr_372 : ∀ i : Nat, i < 200 * n14 → f19_360 i = fv 19 i := fun i h9 => (q_367 i h9).trans (hfr_354 i h9)
    refine lv_iconst (v := 0) hx hb dX9_either_88 (by decide) ?_
    refine lv_istore_n (lv' := [(1, .int 0), (4, .int (-1)), (3, .int r_189), (2, .int (nI mo_3)), (0, .ref h0)]) hx hb dX9_either_89 rfl hl (by decide) rfl (fun ls hl => ?_)
    refine lv_goto (tgt := 202) hx hb dX9_either_90 (by decide) ?_
    refine lv_goto (tgt := 19) hx hb dX9_either_202 (by decide) ?_
    exact ih_1 (0, mo_3, k25_313, 0, p22_312, k29_357, k30_358, k31_359, f19_360, f28_11, gx2_361, y_13, j_14, gk2_362, pN sg_16, (Tm_17 ++ [(13, w_328, m_329, v_330)]) ++ eN sg_16) (mw h0 ad cs (upd (upd (upd (upd (upd (upd iv 21 (nI 0)) 22 p22_312) 25 (nI k25_313)) 29 (nI k29_357)) 30 (nI k30_358)) 31 (nI k31_359)) (uF (uF fv 19 f19_360) 28 f28_11) gv) _ _ ls (by show 2 * (n26 - k25_313) + mo_3 + (1 - 0) < 2 * (n26 - a_4) + mo_3 + (1 - (0)); omega) ⟨rfl, (show 0 ≤ 1 from by omega), (show mo_3 ≤ 1 from by omega), (show 1 ≤ mo_3 ∨ 0 = 0 from by omega), (show k25_313 ≤ n26 from by omega), (show 2 * (k30_358 + j_14 + gx2_361) ≤ k25_313 from by omega), (show 0 ≤ 3 from by omega), (show pil f28_11 k29_357 gx2_361 y_13 j_14 gk2_362 from q_363), (show k31_359 = gx2_361 + y_13 from by omega), (show gx2_361 + y_13 ≤ 6 from by omega), (show 1 ≤ 0 ∨ cfr f19_360 (200 * n14) ((Tm_17 ++ [(13, w_328, m_329, v_330)]) ++ eN sg_16) (200 * n14 + k30_358) from Or.inr (q_368 _ hw_353)), (show ∀ i : Nat, i < 200 * n14 → f19_360 i = fv 19 i from hfr_372), (show plS f28_11 (pN sg_16) from q_369), (show k29_357 = (pN sg_16).length from q_370), (show k31_359 = dep (pN sg_16) from by omega), (show 0 = 0 → mo_3 = 1 → Rch (fv 0) n26 (0, skB (fv 0) n26 n25, [], []) (1 - 0, skB (fv 0) n26 k25_313, (pN sg_16), ((Tm_17 ++ [(13, w_328, m_329, v_330)]) ++ eN sg_16)) from (fun _ _ => by rw [(h_332 rfl).1]; exact hr7.st (st_te hno ht_331))), (show ¬ 0 = 0 → rcF (fv 0) n26 (0, skB (fv 0) n26 n25, [], []) 0 p22_312 from fun h9 => absurd rfl h9), (show mo_3 = 0 → 0 = 0 → eiE (fv 0) n26 (0, skB (fv 0) n26 n25, [], []) (pN sg_16) ((Tm_17 ++ [(13, w_328, m_329, v_330)]) ++ eN sg_16) k25_313 from fun h9 => by omega), (show 0 = 0 → p22_312 = iv 22 from fun _ => (q_321 rfl).trans (hp0_35 rfl))⟩ hP hD hS (lv_sub hl [0, 3, 4] rfl)
  have he_208b : k25_200 ≤ e_207 ∧ e_207 ≤ n26 := ⟨he_208.1, he_208.2.1⟩
  refine lv_istore (lv' := [(4, .int (nI c_206)), (3, .int r_189), (1, .int (nI du_2)), (2, .int (nI mo_3)), (0, .ref h0)]) hx hb dX9_either_39 hl (by decide) rfl (fun ls hl => ?_)
  refine lv_iload_n hx hb dX9_either_41 rfl (lv_at hl 2 rfl) ?_
  refine lv_if_eq (tgt := 76) hx hb dX9_either_42 (by decide) (fun c_373 => ?_) (fun c_373 => ?_)
  · have d_374 := n_eq (a := du_2) (b := 0) (by omega) (by omega) c_373
    obtain rfl : du_2 = 0 := by omega
    have hr7 : Rch (fv 0) n26 (0, skB (fv 0) n26 n25, [], []) (1, k25_200, sg_16, Tm_17) := hr8
    refine lv_iload_n hx hb dX9_either_76 rfl (lv_at hl 2 rfl) ?_
    refine lv_if_eq (tgt := 93) hx hb dX9_either_77 (by decide) (fun c_375 => ?_) (fun c_375 => absurd (by decide) c_375)
    refine lv_iload hx hb dX9_either_93 (lv_at hl 0 rfl) ?_
    refine lv_iconst (v := 2) hx hb dX9_either_95 (by decide) ?_
    refine lv_icmp_eq (tgt := 105) hx hb dX9_either_96 (by decide) (fun c_376 => ?_) (fun c_376 => ?_)
    · have d_377 := n_eq (a := c_206) (b := 2) (by omega) (by omega) c_376
      obtain rfl : c_206 = 2 := by omega
      have heL : e_207 = k25_200 + 3 := by omega
      clear hc_209
      refine lv_aload_n hx hb dX9_either_105 rfl (lv_at hl 4 rfl) ?_
      refine lv_iload hx hb dX9_either_106 (lv_at hl 0 rfl) ?_
      have hFc := free_all hD hS hA
      refine va_callv (va_runV (As := [.int (nI (2))]) (rest := []) ⟨hx, hb, hml, hown, hts⟩ (m_joins l D h0 ad cs (upd (upd (upd (upd (upd (upd iv 21 (nI (0))) 22 p22_6) 25 (nI k25_200)) 29 (nI p_7)) 30 (nI d_8)) 31 (nI q_9)) (uF (uF fv 19 f19_10) 28 f28_11) gv n14 p_7 d_8 2 x_12 y_13 j_14 k_15 sg_16 H.size h14 rfl rfl (by omega) (by omega) hp_24 (by omega) (by omega) hpl_29 hpn_30) (cwV 1 hts gX9_either_X9_joins rfl rfl rfl (by decide +kernel) ⟨Nat.le_of_ble_eq_true rfl, Nat.le_of_ble_eq_true rfl⟩) ⟨fun a U g mk q => by obtain ⟨q0, q1, qP, qK, qD⟩ := q; exact ⟨q0, q1, qP, va_K.moved (u := U) (U := U.calling g mk a) (Vm.Alike.refl U.vm) qK, qD⟩, va_recv hK hP (ci := 9) (q0 := 0) rfl rfl, fun U hU hW => ⟨rfl, by rw [hU], by rw [hU]; exact hP, va_K.moved hW.alike hK, hD.weaken (fun _ _ _ _ => trivial)⟩⟩ rfl rfl hl.1 rfl (lv_room (Nat.le_of_ble_eq_true rfl)) dX9_either_108 ⟨Nat.le_of_ble_eq_true rfl, Nat.le_of_ble_eq_true rfl⟩) hS (fun q _ h => hFc q h) hFc (fun u t H1 locs ht hvm w_379 hB hz1 hk1 hS => ?_)
      obtain ⟨k29_380, k30_381, f19_382, gj2_383, gk2_384, q_385, q_386, q_387, q_388, q_389, q_390, q_391, q_392, q_393, q_394, hP1, hK1, hD1⟩ := hB
      replace q_385 : pil ((f28_11)) k29_380 x_12 y_13 gj2_383 gk2_384 := q_385
      replace q_389 : ∀ i : Nat, k29_380 ≤ i → i < p_7 → (f28_11) i = 1 ∨ (f28_11) i = 2 := q_389
      replace q_390 : ∀ i : Nat, i < 200 * n14 → f19_382 i = (f19_10) i := q_390
      replace q_391 : ∀ T9 : List Tk, cfr ((f19_10)) (200 * n14) T9 (200 * n14 + d_8) → cfr f19_382 (200 * n14) (T9 ++ eW 2 sg_16) (200 * n14 + k30_381) := q_391
      replace q_393 : plS ((f28_11)) (jW 2 sg_16) := q_393
      rw [ht] at hP1
      have hK := va_K.moved hvm.symm hK1
      generalize H1 = H at hP1 hS ⊢
      have hP : va_P D vwCl (mw h0 ad cs (upd (upd (upd (upd (upd (upd iv 21 (nI (0))) 22 p22_6) 25 (nI k25_200)) 29 (nI k29_380)) 30 (nI k30_381)) 31 (nI q_9)) (uF (uF fv 19 f19_382) 28 f28_11) gv) H := hP1
      have hD : va_D A (mw h0 ad cs (upd (upd (upd (upd (upd (upd iv 21 (nI (0))) 22 p22_6) 25 (nI k25_200)) 29 (nI k29_380)) 30 (nI k30_381)) 31 (nI q_9)) (uF (uF fv 19 f19_382) 28 f28_11) gv) := hD1.weaken (fun _ _ _ h => hFc _ h)
      have hjl : plS f28_11 (jA sg_16) := q_393
      have hjn : k29_380 = (jA sg_16).length := q_394
      have hfr_395 : ∀ i : Nat, i < 200 * n14 → f19_382 i = fv 19 i := fun i h9 => (q_390 i h9).trans (hfr_28 i h9)
      have hw_396 : cfr f19_382 (200 * n14) (Tm_17 ++ eA sg_16) (200 * n14 + k30_381) := q_391 _ hw_188
      have hlen2 := q_385.len
      refine lv_aload_n hx hb dX9_either_111 rfl (lv_at hl 4 rfl) ?_
      refine va_get (D := D) (ci := 9) (v := .ref (ad 28)) (C := RX9) (T := TX9) (N := 44) hx hb hts hin9 hown hK hP 0 rfl rfl 28 (by decide) (hts (.fieldLink RX9 96 "HoneyHouseModel" "pile" "[I") (List.mem_of_getElem? (i := 5) rfl)) (fun _ h9 => h9) rfl dX9_either_112 ?_
      refine lv_aload_n hx hb dX9_either_115 rfl (lv_at hl 4 rfl) ?_
      refine va_get (D := D) (ci := 9) (v := .int (nI k29_380)) (C := RX9) (T := TX9) (N := 44) hx hb hts hin9 hown hK hP 0 rfl rfl 29 (by decide) (hts (.fieldLink RX9 99 "HoneyHouseModel" "piled" "I") (List.mem_of_getElem? (i := 1) rfl)) (fun _ h9 => h9) rfl dX9_either_116 ?_
      refine lv_iload hx hb dX9_either_119 (lv_at hl 0 rfl) ?_
      refine va_iast (f := f28_11) (n := 32) hx hb hK hP hD hS 19 18 rfl rfl (vp_in_nI (n := k29_380) (by omega) (by omega)) dX9_either_121 (fun H locs hP hD hS => ?_)
      have hP : va_P D vwCl (mw h0 ad cs (upd (upd (upd (upd (upd (upd iv 21 (nI (0))) 22 p22_6) 25 (nI k25_200)) 29 (nI k29_380)) 30 (nI k30_381)) 31 (nI q_9)) (uF (uF fv 19 f19_382) 28 (upd f28_11 (nI k29_380).toNatClampNeg (nI (2)))) gv) H := hP
      have hD : va_D A (mw h0 ad cs (upd (upd (upd (upd (upd (upd iv 21 (nI (0))) 22 p22_6) 25 (nI k25_200)) 29 (nI k29_380)) 30 (nI k30_381)) 31 (nI q_9)) (uF (uF fv 19 f19_382) 28 (upd f28_11 (nI k29_380).toNatClampNeg (nI (2)))) gv) := hD
      obtain ⟨f_397, hf_398⟩ : ∃ g9, g9 = upd f28_11 (nI k29_380).toNatClampNeg (nI (2)) := ⟨_, rfl⟩
      rw [← hf_398] at hP hD
      rw [nI_clamp (n := k29_380) (by omega)] at hf_398
      have hp_399 : pil f_397 (k29_380 + 1) x_12 y_13 (gj2_383 + 1) 2 := by rw [hf_398]; exact (q_385.up _).an (by omega) up_eq
      refine lv_aload_n hx hb dX9_either_122 rfl (lv_at hl 4 rfl) ?_
      refine lv_dup hx hb dX9_either_123 rfl ?_
      refine va_get (D := D) (ci := 9) (v := .int (nI k29_380)) (C := RX9) (T := TX9) (N := 44) hx hb hts hin9 hown hK hP 0 rfl rfl 29 (by decide) (hts (.fieldLink RX9 99 "HoneyHouseModel" "piled" "I") (List.mem_of_getElem? (i := 1) rfl)) (fun _ h9 => h9) rfl dX9_either_124 ?_
      refine lv_iconst (v := 1) hx hb dX9_either_127 (by decide) ?_
      refine lv_iadd hx hb dX9_either_128 ?_
      refine tp_i (y := nI (k29_380 + 1)) (nI_add k29_380 1) ?_
      refine va_put (D := D) (ci := 9) (v := .int (nI (k29_380 + 1))) (ty := .int) (C := RX9) (T := TX9) (N := 44) hx hb hts hin9 tyX9 tyX9_ok nmX9 hown hK hP hD hS 0 rfl rfl 29 (by decide) (hts (.fieldLink RX9 99 "HoneyHouseModel" "piled" "I") (List.mem_of_getElem? (i := 1) rfl)) (fun _ h9 => h9) rfl (tyX9_ok 29 (by decide)) rfl rfl (Nat.le_of_ble_eq_true rfl) dX9_either_129 (fun H locs hP hD hS => ?_)
      have hP : va_P D vwCl (mw h0 ad cs (upd (upd (upd (upd (upd (upd iv 21 (nI (0))) 22 p22_6) 25 (nI k25_200)) 29 (nI (k29_380 + 1))) 30 (nI k30_381)) 31 (nI q_9)) (uF (uF fv 19 f19_382) 28 f_397) gv) H := hP
      have hD : va_D A (mw h0 ad cs (upd (upd (upd (upd (upd (upd iv 21 (nI (0))) 22 p22_6) 25 (nI k25_200)) 29 (nI (k29_380 + 1))) 30 (nI k30_381)) 31 (nI q_9)) (uF (uF fv 19 f19_382) 28 f_397) gv) := hD
      refine lv_aload_n hx hb dX9_either_132 rfl (lv_at hl 4 rfl) ?_
      refine lv_aload_n hx hb dX9_either_133 rfl (lv_at hl 4 rfl) ?_
      refine vp_callSi (W.runV (As := []) (rest := [.ref h0]) ⟨hx, hb, hml, hown, hts⟩ (m_wordEnd l D h0 ad cs (upd (upd (upd (upd (upd (upd iv 21 (nI (0))) 22 p22_6) 25 (nI k25_200)) 29 (nI (k29_380 + 1))) 30 (nI k30_381)) 31 (nI q_9)) (uF (uF fv 19 f19_382) 28 f_397) gv k25_200 n26  rfl h26 (by omega) (by omega)) (cwV 0 hts gX9_either_X9_wordEnd rfl rfl rfl (by decide +kernel) ⟨Nat.le_of_ble_eq_true rfl, Nat.le_of_ble_eq_true rfl⟩) ⟨fun a U g mk q => ⟨q.1, q.2.1, va_K.moved (u := U) (U := U.calling g mk a) (Vm.Alike.refl U.vm) q.2.2⟩, va_recv hK hP (ci := 9) (q0 := 0) rfl rfl, fun U hU hW => ⟨rfl, by rw [hU]; exact hP, va_K.moved hW.alike hK⟩⟩ rfl rfl hl.1 rfl (lv_room (Nat.le_of_ble_eq_true rfl)) dX9_either_134 ⟨Nat.le_of_ble_eq_true rfl, Nat.le_of_ble_eq_true rfl⟩) (fun r_400 k_401 => ?_)
      obtain ⟨e_402, rfl, he_403⟩ := k_401
      have hq_e_402 : e_402 = e_207 := he_403.uq he_208
      refine va_put (D := D) (ci := 9) (v := .int (nI e_402)) (ty := .int) (C := RX9) (T := TX9) (N := 44) hx hb hts hin9 tyX9 tyX9_ok nmX9 hown hK hP hD hS 0 rfl rfl 25 (by decide) (hts (.fieldLink RX9 87 "HoneyHouseModel" "at" "I") (List.mem_of_getElem? (i := 6) rfl)) (fun _ h9 => h9) rfl (tyX9_ok 25 (by decide)) rfl rfl (Nat.le_of_ble_eq_true rfl) dX9_either_137 (fun H locs hP hD hS => ?_)
      have hP : va_P D vwCl (mw h0 ad cs (upd (upd (upd (upd (upd (upd iv 21 (nI (0))) 22 p22_6) 25 (nI e_402)) 29 (nI (k29_380 + 1))) 30 (nI k30_381)) 31 (nI q_9)) (uF (uF fv 19 f19_382) 28 f_397) gv) H := hP
      have hD : va_D A (mw h0 ad cs (upd (upd (upd (upd (upd (upd iv 21 (nI (0))) 22 p22_6) 25 (nI e_402)) 29 (nI (k29_380 + 1))) 30 (nI k30_381)) 31 (nI q_9)) (uF (uF fv 19 f19_382) 28 f_397) gv) := hD
      have hwj : wdE (fv 0) n26 k25_200 = 2 := by omega
      refine lv_iconst (v := 1) hx hb dX9_either_140 (by decide) ?_
      refine lv_istore_n (lv' := [(1, .int 1), (4, .int (nI (2))), (3, .int r_189), (2, .int (nI mo_3)), (0, .ref h0)]) hx hb dX9_either_141 rfl hl (by decide) rfl (fun ls hl => ?_)
      refine lv_goto (tgt := 202) hx hb dX9_either_142 (by decide) ?_
      refine lv_goto (tgt := 19) hx hb dX9_either_202 (by decide) ?_
      exact ih_1 (1, mo_3, e_402, 0, p22_6, k29_380 + 1, k30_381, q_9, f19_382, f_397, x_12, y_13, gj2_383 + 1, 2, 2 :: jA sg_16, Tm_17 ++ eA sg_16) (mw h0 ad cs (upd (upd (upd (upd (upd (upd iv 21 (nI 0)) 22 p22_6) 25 (nI e_402)) 29 (nI (k29_380 + 1))) 30 (nI k30_381)) 31 (nI q_9)) (uF (uF fv 19 f19_382) 28 f_397) gv) _ _ ls (by show 2 * (n26 - e_402) + mo_3 + (1 - 0) < 2 * (n26 - a_4) + mo_3 + (1 - (0)); omega) ⟨rfl, (show 1 ≤ 1 from by omega), (show mo_3 ≤ 1 from by omega), (show 1 ≤ mo_3 ∨ 1 = 0 from by omega), (show e_402 ≤ n26 from by omega), (show 2 * (k30_381 + (gj2_383 + 1) + x_12) ≤ e_402 from by omega), (show 0 ≤ 3 from by omega), (show pil f_397 (k29_380 + 1) x_12 y_13 (gj2_383 + 1) 2 from hp_399), (show q_9 = x_12 + y_13 from by omega), (show x_12 + y_13 ≤ 6 from by omega), (show 1 ≤ 0 ∨ cfr f19_382 (200 * n14) (Tm_17 ++ eA sg_16) (200 * n14 + k30_381) from Or.inr hw_396), (show ∀ i : Nat, i < 200 * n14 → f19_382 i = fv 19 i from hfr_395), (show plS f_397 (2 :: jA sg_16) from (by rw [hf_398]; exact hjl.push hjn (by omega) rfl)), (show (k29_380 + 1) = (2 :: jA sg_16).length from (by rw [List.length_cons]; omega)), (show q_9 = dep (2 :: jA sg_16) from (by rw [dep_n _ (by omega), dep_jA]; omega)), (show 0 = 0 → mo_3 = 1 → Rch (fv 0) n26 (0, skB (fv 0) n26 n25, [], []) (1 - 1, skB (fv 0) n26 e_402, (2 :: jA sg_16), (Tm_17 ++ eA sg_16)) from (fun _ _ => by rw [show skB (fv 0) n26 e_402 = nxF (fv 0) n26 k25_200 from nx_e (by omega) hwj (he_208.r.trans (by omega))]; exact hr7.st (st_and hwj))), (show ¬ 0 = 0 → rcF (fv 0) n26 (0, skB (fv 0) n26 n25, [], []) 0 p22_6 from fun h9 => absurd rfl h9), (show mo_3 = 0 → 0 = 0 → eiE (fv 0) n26 (0, skB (fv 0) n26 n25, [], []) (2 :: jA sg_16) (Tm_17 ++ eA sg_16) e_402 from fun h9 => by omega), (show 0 = 0 → p22_6 = iv 22 from fun _ => hp0_35 rfl)⟩ hP hD hS (lv_sub hl [0, 3, 4] rfl)
    have d_404 := n_ne (a := c_206) (b := 2) (by omega) (by omega) c_376
    refine lv_iload hx hb dX9_either_99 (lv_at hl 0 rfl) ?_
    refine lv_iconst (v := 1) hx hb dX9_either_101 (by decide) ?_
    refine lv_icmp_ne (tgt := 145) hx hb dX9_either_102 (by decide) (fun c_405 => ?_) (fun c_405 => ?_)
    · have d_406 := n_ne (a := c_206) (b := 1) (by omega) (by omega) c_405
      have hw12 : ¬ (wdE (fv 0) n26 k25_200 = 1 ∨ wdE (fv 0) n26 k25_200 = 2) := by omega
      clear hc_209
      refine lv_iload_n hx hb dX9_either_145 rfl (lv_at hl 1 rfl) ?_
      refine lv_bipush (v := 41) hx hb dX9_either_146 (by decide) ?_
      refine lv_icmp_ne (tgt := 200) hx hb dX9_either_148 (by decide) (fun c_407 => ?_) (fun c_407 => ?_)
      · refine lv_iconst (v := 0) hx hb dX9_either_200 (by decide) ?_
        refine lv_istore_n (lv' := [(2, .int 0), (4, .int (nI c_206)), (3, .int r_189), (1, .int (nI (0))), (0, .ref h0)]) hx hb dX9_either_201 rfl hl (by decide) rfl (fun ls hl => ?_)
        refine lv_goto (tgt := 19) hx hb dX9_either_202 (by decide) ?_
        exact ih_1 (0, 0, k25_200, 0, p22_6, p_7, d_8, q_9, f19_10, f28_11, x_12, y_13, j_14, k_15, sg_16, Tm_17) (mw h0 ad cs (upd (upd (upd (upd (upd (upd iv 21 (nI 0)) 22 p22_6) 25 (nI k25_200)) 29 (nI p_7)) 30 (nI d_8)) 31 (nI q_9)) (uF (uF fv 19 f19_10) 28 f28_11) gv) _ _ ls (by show 2 * (n26 - k25_200) + 0 + (1 - 0) < 2 * (n26 - a_4) + mo_3 + (1 - (0)); omega) ⟨rfl, (show 0 ≤ 1 from by omega), (show 0 ≤ 1 from by omega), (show 1 ≤ 0 ∨ 0 = 0 from by omega), (show k25_200 ≤ n26 from by omega), (show 2 * (d_8 + j_14 + x_12) ≤ k25_200 from by omega), (show 0 ≤ 3 from by omega), (show pil f28_11 p_7 x_12 y_13 j_14 k_15 from hp_24), (show q_9 = x_12 + y_13 from by omega), (show x_12 + y_13 ≤ 6 from by omega), (show 1 ≤ 0 ∨ cfr f19_10 (200 * n14) Tm_17 (200 * n14 + d_8) from Or.inr hw_188), (show ∀ i : Nat, i < 200 * n14 → f19_10 i = fv 19 i from hfr_28), (show plS f28_11 sg_16 from hpl_29), (show p_7 = sg_16.length from hpn_30), (show q_9 = dep sg_16 from by omega), (show 0 = 0 → 0 = 1 → Rch (fv 0) n26 (0, skB (fv 0) n26 n25, [], []) (1 - 0, skB (fv 0) n26 k25_200, sg_16, Tm_17) from fun _ h9 => absurd h9 (by omega)), (show ¬ 0 = 0 → rcF (fv 0) n26 (0, skB (fv 0) n26 n25, [], []) 0 p22_6 from fun h9 => absurd rfl h9), (show 0 = 0 → 0 = 0 → eiE (fv 0) n26 (0, skB (fv 0) n26 n25, [], []) sg_16 Tm_17 k25_200 from (fun _ _ => ⟨hr7, by omega, (fun h9 => hr0.elim (fun z9 => by omega) (fun z9 => c_407 (z9.2.trans h9.1.2))), hskb⟩)), (show 0 = 0 → p22_6 = iv 22 from fun _ => hp0_35 rfl)⟩ hP hD hS (lv_sub hl [3, 0, 4] rfl)
      have hlt41 : k25_191 < n26 := q_196.elim (fun h9 => absurd (h9.1.symm.trans c_407) (by decide)) (fun h9 => h9.1)
      refine lv_aload_n hx hb dX9_either_151 rfl (lv_at hl 4 rfl) ?_
      refine vp_callSi (W.runV (As := []) (rest := []) ⟨hx, hb, hml, hown, hts⟩ (m_brackets l D h0 ad cs (upd (upd (upd (upd (upd (upd iv 21 (nI (0))) 22 p22_6) 25 (nI k25_200)) 29 (nI p_7)) 30 (nI d_8)) 31 (nI q_9)) (uF (uF fv 19 f19_10) 28 f28_11) gv p_7 sg_16 rfl (by omega) hpl_29 hpn_30) (cwV 0 hts gX9_either_X9_brackets rfl rfl rfl (by decide +kernel) ⟨Nat.le_of_ble_eq_true rfl, Nat.le_of_ble_eq_true rfl⟩) ⟨fun a U g mk q => ⟨q.1, q.2.1, va_K.moved (u := U) (U := U.calling g mk a) (Vm.Alike.refl U.vm) q.2.2⟩, va_recv hK hP (ci := 9) (q0 := 0) rfl rfl, fun U hU hW => ⟨rfl, by rw [hU]; exact hP, va_K.moved hW.alike hK⟩⟩ rfl rfl hl.1 rfl (lv_room (Nat.le_of_ble_eq_true rfl)) dX9_either_152 ⟨Nat.le_of_ble_eq_true rfl, Nat.le_of_ble_eq_true rfl⟩) (fun r_408 k_409 => ?_)
      obtain ⟨b_410, rfl, hb_411, hb_412, hb_413⟩ := k_409
      refine lv_if_le (tgt := 200) hx hb dX9_either_155 (by decide) (fun c_414 => ?_) (fun c_414 => ?_)
      · have d_415 := n_le (a := b_410) (b := 0) (by omega) (by omega) c_414
        refine lv_iconst (v := 0) hx hb dX9_either_200 (by decide) ?_
        refine lv_istore_n (lv' := [(2, .int 0), (4, .int (nI c_206)), (3, .int r_189), (1, .int (nI (0))), (0, .ref h0)]) hx hb dX9_either_201 rfl hl (by decide) rfl (fun ls hl => ?_)
        refine lv_goto (tgt := 19) hx hb dX9_either_202 (by decide) ?_
        exact ih_1 (0, 0, k25_200, 0, p22_6, p_7, d_8, q_9, f19_10, f28_11, x_12, y_13, j_14, k_15, sg_16, Tm_17) (mw h0 ad cs (upd (upd (upd (upd (upd (upd iv 21 (nI 0)) 22 p22_6) 25 (nI k25_200)) 29 (nI p_7)) 30 (nI d_8)) 31 (nI q_9)) (uF (uF fv 19 f19_10) 28 f28_11) gv) _ _ ls (by show 2 * (n26 - k25_200) + 0 + (1 - 0) < 2 * (n26 - a_4) + mo_3 + (1 - (0)); omega) ⟨rfl, (show 0 ≤ 1 from by omega), (show 0 ≤ 1 from by omega), (show 1 ≤ 0 ∨ 0 = 0 from by omega), (show k25_200 ≤ n26 from by omega), (show 2 * (d_8 + j_14 + x_12) ≤ k25_200 from by omega), (show 0 ≤ 3 from by omega), (show pil f28_11 p_7 x_12 y_13 j_14 k_15 from hp_24), (show q_9 = x_12 + y_13 from by omega), (show x_12 + y_13 ≤ 6 from by omega), (show 1 ≤ 0 ∨ cfr f19_10 (200 * n14) Tm_17 (200 * n14 + d_8) from Or.inr hw_188), (show ∀ i : Nat, i < 200 * n14 → f19_10 i = fv 19 i from hfr_28), (show plS f28_11 sg_16 from hpl_29), (show p_7 = sg_16.length from hpn_30), (show q_9 = dep sg_16 from by omega), (show 0 = 0 → 0 = 1 → Rch (fv 0) n26 (0, skB (fv 0) n26 n25, [], []) (1 - 0, skB (fv 0) n26 k25_200, sg_16, Tm_17) from fun _ h9 => absurd h9 (by omega)), (show ¬ 0 = 0 → rcF (fv 0) n26 (0, skB (fv 0) n26 n25, [], []) 0 p22_6 from fun h9 => absurd rfl h9), (show 0 = 0 → 0 = 0 → eiE (fv 0) n26 (0, skB (fv 0) n26 n25, [], []) sg_16 Tm_17 k25_200 from (fun _ _ => ⟨hr7, by omega, (fun h9 => absurd h9.2 (by omega)), hskb⟩)), (show 0 = 0 → p22_6 = iv 22 from fun _ => hp0_35 rfl)⟩ hP hD hS (lv_sub hl [3, 0, 4] rfl)
      have d_416 := n_nle (a := b_410) (b := 0) (by omega) (by omega) c_414
      obtain ⟨i9, hi9, hi8⟩ := hb_412.resolve_left (by omega)
      have hbk : 0 < brk sg_16 := by omega
      have hb41 : k25_200 < n26 ∧ fv 0 k25_200 = 41 := hr0.elim (fun h9 => absurd (h9.1.symm.trans c_407) (by decide)) (fun h9 => ⟨h9.1, h9.2.symm.trans c_407⟩)
      refine lv_aload_n hx hb dX9_either_158 rfl (lv_at hl 4 rfl) ?_
      refine lv_iconst (v := 1) hx hb dX9_either_159 (by decide) ?_
      have hFc := free_all hD hS hA
      refine va_callv (va_runV (As := [.int 1]) (rest := []) ⟨hx, hb, hml, hown, hts⟩ (m_joins l D h0 ad cs (upd (upd (upd (upd (upd (upd iv 21 (nI (0))) 22 p22_6) 25 (nI k25_200)) 29 (nI p_7)) 30 (nI d_8)) 31 (nI q_9)) (uF (uF fv 19 f19_10) 28 f28_11) gv n14 p_7 d_8 1 x_12 y_13 j_14 k_15 sg_16 H.size h14 rfl rfl (by omega) (by omega) hp_24 (by omega) (by omega) hpl_29 hpn_30) (cwV 1 hts gX9_either_X9_joins rfl rfl rfl (by decide +kernel) ⟨Nat.le_of_ble_eq_true rfl, Nat.le_of_ble_eq_true rfl⟩) ⟨fun a U g mk q => by obtain ⟨q0, q1, qP, qK, qD⟩ := q; exact ⟨q0, q1, qP, va_K.moved (u := U) (U := U.calling g mk a) (Vm.Alike.refl U.vm) qK, qD⟩, va_recv hK hP (ci := 9) (q0 := 0) rfl rfl, fun U hU hW => ⟨rfl, by rw [hU], by rw [hU]; exact hP, va_K.moved hW.alike hK, hD.weaken (fun _ _ _ _ => trivial)⟩⟩ rfl rfl hl.1 rfl (lv_room (Nat.le_of_ble_eq_true rfl)) dX9_either_160 ⟨Nat.le_of_ble_eq_true rfl, Nat.le_of_ble_eq_true rfl⟩) hS (fun q _ h => hFc q h) hFc (fun u t H1 locs ht hvm w_418 hB hz1 hk1 hS => ?_)
      obtain ⟨k29_419, k30_420, f19_421, gj2_422, gk2_423, q_424, q_425, q_426, q_427, q_428, q_429, q_430, q_431, q_432, q_433, hP1, hK1, hD1⟩ := hB
      replace q_424 : pil ((f28_11)) k29_419 x_12 y_13 gj2_422 gk2_423 := q_424
      replace q_428 : ∀ i : Nat, k29_419 ≤ i → i < p_7 → (f28_11) i = 1 ∨ (f28_11) i = 2 := q_428
      replace q_429 : ∀ i : Nat, i < 200 * n14 → f19_421 i = (f19_10) i := q_429
      replace q_430 : ∀ T9 : List Tk, cfr ((f19_10)) (200 * n14) T9 (200 * n14 + d_8) → cfr f19_421 (200 * n14) (T9 ++ eW 1 sg_16) (200 * n14 + k30_420) := q_430
      replace q_432 : plS ((f28_11)) (jW 1 sg_16) := q_432
      rw [ht] at hP1
      have hK := va_K.moved hvm.symm hK1
      generalize H1 = H at hP1 hS ⊢
      have hP : va_P D vwCl (mw h0 ad cs (upd (upd (upd (upd (upd (upd iv 21 (nI (0))) 22 p22_6) 25 (nI k25_200)) 29 (nI k29_419)) 30 (nI k30_420)) 31 (nI q_9)) (uF (uF fv 19 f19_421) 28 f28_11) gv) H := hP1
      have hD : va_D A (mw h0 ad cs (upd (upd (upd (upd (upd (upd iv 21 (nI (0))) 22 p22_6) 25 (nI k25_200)) 29 (nI k29_419)) 30 (nI k30_420)) 31 (nI q_9)) (uF (uF fv 19 f19_421) 28 f28_11) gv) := hD1.weaken (fun _ _ _ h => hFc _ h)
      have hjl : plS f28_11 (jO sg_16) := q_432
      have hjn : k29_419 = (jO sg_16).length := q_433
      have hfr_434 : ∀ i : Nat, i < 200 * n14 → f19_421 i = fv 19 i := fun i h9 => (q_429 i h9).trans (hfr_28 i h9)
      have hw_435 : cfr f19_421 (200 * n14) (Tm_17 ++ eO sg_16) (200 * n14 + k30_420) := q_430 _ hw_188
      have hlen2 := q_424.len
      have hk1 : 1 ≤ k29_419 := (Nat.lt_or_ge i9 k29_419).elim (fun q => by omega) (fun q => absurd hi8 (nj12 (q_428 i9 q hi9)))
      obtain rfl : gk2_423 = 0 := by omega
      obtain ⟨hb_436, x_437, y_438, k_439, hxy_440, hx_441, hp_442⟩ := q_424.popB hk1
      obtain ⟨sq, eq9, lq, plq, dq⟩ := pl_cl hjl hjn hbk
      have hrq : Rch (fv 0) n26 (0, skB (fv 0) n26 n25, [], []) (1, nxF (fv 0) n26 k25_200, pN sq, (Tm_17 ++ eO sg_16) ++ eN sq) := by have h9 := hr7.st (st_close hb41 hbk); rw [eq9] at h9; exact h9
      refine lv_aload_n hx hb dX9_either_163 rfl (lv_at hl 4 rfl) ?_
      refine lv_dup hx hb dX9_either_164 rfl ?_
      refine va_get (D := D) (ci := 9) (v := .int (nI k29_419)) (C := RX9) (T := TX9) (N := 44) hx hb hts hin9 hown hK hP 0 rfl rfl 29 (by decide) (hts (.fieldLink RX9 99 "HoneyHouseModel" "piled" "I") (List.mem_of_getElem? (i := 1) rfl)) (fun _ h9 => h9) rfl dX9_either_165 ?_
      refine lv_iconst (v := 1) hx hb dX9_either_168 (by decide) ?_
      refine lv_isub hx hb dX9_either_169 ?_
      refine tp_i (y := nI (k29_419 - 1)) (pk_sub (a := k29_419) (b := 1) (by omega)) ?_
      refine va_put (D := D) (ci := 9) (v := .int (nI (k29_419 - 1))) (ty := .int) (C := RX9) (T := TX9) (N := 44) hx hb hts hin9 tyX9 tyX9_ok nmX9 hown hK hP hD hS 0 rfl rfl 29 (by decide) (hts (.fieldLink RX9 99 "HoneyHouseModel" "piled" "I") (List.mem_of_getElem? (i := 1) rfl)) (fun _ h9 => h9) rfl (tyX9_ok 29 (by decide)) rfl rfl (Nat.le_of_ble_eq_true rfl) dX9_either_170 (fun H locs hP hD hS => ?_)
      have hP : va_P D vwCl (mw h0 ad cs (upd (upd (upd (upd (upd (upd iv 21 (nI (0))) 22 p22_6) 25 (nI k25_200)) 29 (nI (k29_419 - 1))) 30 (nI k30_420)) 31 (nI q_9)) (uF (uF fv 19 f19_421) 28 f28_11) gv) H := hP
      have hD : va_D A (mw h0 ad cs (upd (upd (upd (upd (upd (upd iv 21 (nI (0))) 22 p22_6) 25 (nI k25_200)) 29 (nI (k29_419 - 1))) 30 (nI k30_420)) 31 (nI q_9)) (uF (uF fv 19 f19_421) 28 f28_11) gv) := hD
      refine lv_aload_n hx hb dX9_either_173 rfl (lv_at hl 4 rfl) ?_
      refine lv_dup hx hb dX9_either_174 rfl ?_
      refine va_get (D := D) (ci := 9) (v := .int (nI q_9)) (C := RX9) (T := TX9) (N := 44) hx hb hts hin9 hown hK hP 0 rfl rfl 31 (by decide) (hts (.fieldLink RX9 105 "HoneyHouseModel" "deep" "I") (List.mem_of_getElem? (i := 3) rfl)) (fun _ h9 => h9) rfl dX9_either_175 ?_
      refine lv_iconst (v := 1) hx hb dX9_either_178 (by decide) ?_
      refine lv_isub hx hb dX9_either_179 ?_
      refine tp_i (y := nI (q_9 - 1)) (pk_sub (a := q_9) (b := 1) (by omega)) ?_
      refine va_put (D := D) (ci := 9) (v := .int (nI (q_9 - 1))) (ty := .int) (C := RX9) (T := TX9) (N := 44) hx hb hts hin9 tyX9 tyX9_ok nmX9 hown hK hP hD hS 0 rfl rfl 31 (by decide) (hts (.fieldLink RX9 105 "HoneyHouseModel" "deep" "I") (List.mem_of_getElem? (i := 3) rfl)) (fun _ h9 => h9) rfl (tyX9_ok 31 (by decide)) rfl rfl (Nat.le_of_ble_eq_true rfl) dX9_either_180 (fun H locs hP hD hS => ?_)
      have hP : va_P D vwCl (mw h0 ad cs (upd (upd (upd (upd (upd (upd iv 21 (nI (0))) 22 p22_6) 25 (nI k25_200)) 29 (nI (k29_419 - 1))) 30 (nI k30_420)) 31 (nI (q_9 - 1))) (uF (uF fv 19 f19_421) 28 f28_11) gv) H := hP
      have hD : va_D A (mw h0 ad cs (upd (upd (upd (upd (upd (upd iv 21 (nI (0))) 22 p22_6) 25 (nI k25_200)) 29 (nI (k29_419 - 1))) 30 (nI k30_420)) 31 (nI (q_9 - 1))) (uF (uF fv 19 f19_421) 28 f28_11) gv) := hD
      refine lv_aload_n hx hb dX9_either_183 rfl (lv_at hl 4 rfl) ?_
      refine lv_dup hx hb dX9_either_184 rfl ?_
      refine va_get (D := D) (ci := 9) (v := .int (nI k25_200)) (C := RX9) (T := TX9) (N := 44) hx hb hts hin9 hown hK hP 0 rfl rfl 25 (by decide) (hts (.fieldLink RX9 87 "HoneyHouseModel" "at" "I") (List.mem_of_getElem? (i := 6) rfl)) (fun _ h9 => h9) rfl dX9_either_185 ?_
      refine lv_iconst (v := 1) hx hb dX9_either_188 (by decide) ?_
      refine lv_iadd hx hb dX9_either_189 ?_
      refine tp_i (y := nI (k25_200 + 1)) (nI_add k25_200 1) ?_
      refine va_put (D := D) (ci := 9) (v := .int (nI (k25_200 + 1))) (ty := .int) (C := RX9) (T := TX9) (N := 44) hx hb hts hin9 tyX9 tyX9_ok nmX9 hown hK hP hD hS 0 rfl rfl 25 (by decide) (hts (.fieldLink RX9 87 "HoneyHouseModel" "at" "I") (List.mem_of_getElem? (i := 6) rfl)) (fun _ h9 => h9) rfl (tyX9_ok 25 (by decide)) rfl rfl (Nat.le_of_ble_eq_true rfl) dX9_either_190 (fun H locs hP hD hS => ?_)
      have hP : va_P D vwCl (mw h0 ad cs (upd (upd (upd (upd (upd (upd iv 21 (nI (0))) 22 p22_6) 25 (nI (k25_200 + 1))) 29 (nI (k29_419 - 1))) 30 (nI k30_420)) 31 (nI (q_9 - 1))) (uF (uF fv 19 f19_421) 28 f28_11) gv) H := hP
      have hD : va_D A (mw h0 ad cs (upd (upd (upd (upd (upd (upd iv 21 (nI (0))) 22 p22_6) 25 (nI (k25_200 + 1))) 29 (nI (k29_419 - 1))) 30 (nI k30_420)) 31 (nI (q_9 - 1))) (uF (uF fv 19 f19_421) 28 f28_11) gv) := hD
      refine lv_aload_n hx hb dX9_either_193 rfl (lv_at hl 4 rfl) ?_
      have hFc := free_all hD hS hA
      refine va_callv (va_runV (As := []) (rest := []) ⟨hx, hb, hml, hown, hts⟩ (m_nots l D h0 ad cs (upd (upd (upd (upd (upd (upd iv 21 (nI (0))) 22 p22_6) 25 (nI (k25_200 + 1))) 29 (nI (k29_419 - 1))) 30 (nI k30_420)) 31 (nI (q_9 - 1))) (uF (uF fv 19 f19_421) 28 f28_11) gv n14 (k29_419 - 1) k30_420 (q_9 - 1) x_437 y_438 gj2_422 k_439 sq H.size h14 rfl rfl rfl (by omega) hp_442 (by omega) (by omega) (by omega) plq (by omega)) (cwV 0 hts gX9_either_X9_nots rfl rfl rfl (by decide +kernel) ⟨Nat.le_of_ble_eq_true rfl, Nat.le_of_ble_eq_true rfl⟩) ⟨fun a U g mk q => by obtain ⟨q0, q1, qP, qK, qD⟩ := q; exact ⟨q0, q1, qP, va_K.moved (u := U) (U := U.calling g mk a) (Vm.Alike.refl U.vm) qK, qD⟩, va_recv hK hP (ci := 9) (q0 := 0) rfl rfl, fun U hU hW => ⟨rfl, by rw [hU], by rw [hU]; exact hP, va_K.moved hW.alike hK, hD.weaken (fun _ _ _ _ => trivial)⟩⟩ rfl rfl hl.1 rfl (lv_room (Nat.le_of_ble_eq_true rfl)) dX9_either_194 ⟨Nat.le_of_ble_eq_true rfl, Nat.le_of_ble_eq_true rfl⟩) hS (fun q _ h => hFc q h) hFc (fun u t H1 locs ht hvm w_444 hB hz1 hk1 hS => ?_)
      obtain ⟨k29_445, k30_446, k31_447, f19_448, gx2_449, gk2_450, q_451, q_452, q_453, q_454, q_455, q_456, q_457, q_458, q_459, hP1, hK1, hD1⟩ := hB
      replace q_451 : pil ((f28_11)) k29_445 gx2_449 y_438 gj2_422 gk2_450 := q_451
      replace q_455 : ∀ i : Nat, i < 200 * n14 → f19_448 i = (f19_421) i := q_455
      replace q_456 : ∀ T9 : List Tk, cfr ((f19_421)) (200 * n14) T9 (200 * n14 + k30_420) → cfr f19_448 (200 * n14) (T9 ++ eN sq) (200 * n14 + k30_446) := q_456
      replace q_457 : plS ((f28_11)) (pN sq) := q_457
      rw [ht] at hP1
      have hK := va_K.moved hvm.symm hK1
      generalize H1 = H at hP1 hS ⊢
      have hP : va_P D vwCl (mw h0 ad cs (upd (upd (upd (upd (upd (upd iv 21 (nI (0))) 22 p22_6) 25 (nI (k25_200 + 1))) 29 (nI k29_445)) 30 (nI k30_446)) 31 (nI k31_447)) (uF (uF fv 19 f19_448) 28 f28_11) gv) H := hP1
      have hD : va_D A (mw h0 ad cs (upd (upd (upd (upd (upd (upd iv 21 (nI (0))) 22 p22_6) 25 (nI (k25_200 + 1))) 29 (nI k29_445)) 30 (nI k30_446)) 31 (nI k31_447)) (uF (uF fv 19 f19_448) 28 f28_11) gv) := hD1.weaken (fun _ _ _ h => hFc _ h)
      have hfr_460 : ∀ i : Nat, i < 200 * n14 → f19_448 i = fv 19 i := fun i h9 => (q_455 i h9).trans (hfr_434 i h9)
      refine lv_goto (tgt := 202) hx hb dX9_either_197 (by decide) ?_
      refine lv_goto (tgt := 19) hx hb dX9_either_202 (by decide) ?_
      exact ih_1 (0, mo_3, k25_200 + 1, 0, p22_6, k29_445, k30_446, k31_447, f19_448, f28_11, gx2_449, y_438, gj2_422, gk2_450, pN sq, (Tm_17 ++ eO sg_16) ++ eN sq) (mw h0 ad cs (upd (upd (upd (upd (upd (upd iv 21 (nI 0)) 22 p22_6) 25 (nI (k25_200 + 1))) 29 (nI k29_445)) 30 (nI k30_446)) 31 (nI k31_447)) (uF (uF fv 19 f19_448) 28 f28_11) gv) _ _ ls (by show 2 * (n26 - (k25_200 + 1)) + mo_3 + (1 - 0) < 2 * (n26 - a_4) + mo_3 + (1 - (0)); omega) ⟨rfl, (show 0 ≤ 1 from by omega), (show mo_3 ≤ 1 from by omega), (show 1 ≤ mo_3 ∨ 0 = 0 from by omega), (show (k25_200 + 1) ≤ n26 from by omega), (show 2 * (k30_446 + gj2_422 + gx2_449) ≤ (k25_200 + 1) from by omega), (show 0 ≤ 3 from by omega), (show pil f28_11 k29_445 gx2_449 y_438 gj2_422 gk2_450 from q_451), (show k31_447 = gx2_449 + y_438 from by omega), (show gx2_449 + y_438 ≤ 6 from by omega), (show 1 ≤ 0 ∨ cfr f19_448 (200 * n14) ((Tm_17 ++ eO sg_16) ++ eN sq) (200 * n14 + k30_446) from Or.inr (q_456 _ hw_435)), (show ∀ i : Nat, i < 200 * n14 → f19_448 i = fv 19 i from hfr_460), (show plS f28_11 (pN sq) from q_457), (show k29_445 = (pN sq).length from q_458), (show k31_447 = dep (pN sq) from by omega), (show 0 = 0 → mo_3 = 1 → Rch (fv 0) n26 (0, skB (fv 0) n26 n25, [], []) (1 - 0, skB (fv 0) n26 (k25_200 + 1), (pN sq), ((Tm_17 ++ eO sg_16) ++ eN sq)) from (fun _ _ => by rw [show skB (fv 0) n26 (k25_200 + 1) = nxF (fv 0) n26 k25_200 from nx_4 (wd_41 hb41).2 rfl]; exact hrq)), (show ¬ 0 = 0 → rcF (fv 0) n26 (0, skB (fv 0) n26 n25, [], []) 0 p22_6 from fun h9 => absurd rfl h9), (show mo_3 = 0 → 0 = 0 → eiE (fv 0) n26 (0, skB (fv 0) n26 n25, [], []) (pN sq) ((Tm_17 ++ eO sg_16) ++ eN sq) (k25_200 + 1) from fun h9 => by omega), (show 0 = 0 → p22_6 = iv 22 from fun _ => hp0_35 rfl)⟩ hP hD hS (lv_sub hl [2, 3, 4] rfl)
    have d_461 := n_eq (a := c_206) (b := 1) (by omega) (by omega) c_405
    obtain rfl : c_206 = 1 := by omega
    have heL : e_207 = k25_200 + 2 := by omega
    clear hc_209
    refine lv_aload_n hx hb dX9_either_105 rfl (lv_at hl 4 rfl) ?_
    refine lv_iload hx hb dX9_either_106 (lv_at hl 0 rfl) ?_
    have hFc := free_all hD hS hA
    refine va_callv (va_runV (As := [.int (nI (1))]) (rest := []) ⟨hx, hb, hml, hown, hts⟩ (m_joins l D h0 ad cs (upd (upd (upd (upd (upd (upd iv 21 (nI (0))) 22 p22_6) 25 (nI k25_200)) 29 (nI p_7)) 30 (nI d_8)) 31 (nI q_9)) (uF (uF fv 19 f19_10) 28 f28_11) gv n14 p_7 d_8 1 x_12 y_13 j_14 k_15 sg_16 H.size h14 rfl rfl (by omega) (by omega) hp_24 (by omega) (by omega) hpl_29 hpn_30) (cwV 1 hts gX9_either_X9_joins rfl rfl rfl (by decide +kernel) ⟨Nat.le_of_ble_eq_true rfl, Nat.le_of_ble_eq_true rfl⟩) ⟨fun a U g mk q => by obtain ⟨q0, q1, qP, qK, qD⟩ := q; exact ⟨q0, q1, qP, va_K.moved (u := U) (U := U.calling g mk a) (Vm.Alike.refl U.vm) qK, qD⟩, va_recv hK hP (ci := 9) (q0 := 0) rfl rfl, fun U hU hW => ⟨rfl, by rw [hU], by rw [hU]; exact hP, va_K.moved hW.alike hK, hD.weaken (fun _ _ _ _ => trivial)⟩⟩ rfl rfl hl.1 rfl (lv_room (Nat.le_of_ble_eq_true rfl)) dX9_either_108 ⟨Nat.le_of_ble_eq_true rfl, Nat.le_of_ble_eq_true rfl⟩) hS (fun q _ h => hFc q h) hFc (fun u t H1 locs ht hvm w_463 hB hz1 hk1 hS => ?_)
    obtain ⟨k29_464, k30_465, f19_466, gj2_467, gk2_468, q_469, q_470, q_471, q_472, q_473, q_474, q_475, q_476, q_477, q_478, hP1, hK1, hD1⟩ := hB
    replace q_469 : pil ((f28_11)) k29_464 x_12 y_13 gj2_467 gk2_468 := q_469
    replace q_473 : ∀ i : Nat, k29_464 ≤ i → i < p_7 → (f28_11) i = 1 ∨ (f28_11) i = 2 := q_473
    replace q_474 : ∀ i : Nat, i < 200 * n14 → f19_466 i = (f19_10) i := q_474
    replace q_475 : ∀ T9 : List Tk, cfr ((f19_10)) (200 * n14) T9 (200 * n14 + d_8) → cfr f19_466 (200 * n14) (T9 ++ eW 1 sg_16) (200 * n14 + k30_465) := q_475
    replace q_477 : plS ((f28_11)) (jW 1 sg_16) := q_477
    rw [ht] at hP1
    have hK := va_K.moved hvm.symm hK1
    generalize H1 = H at hP1 hS ⊢
    have hP : va_P D vwCl (mw h0 ad cs (upd (upd (upd (upd (upd (upd iv 21 (nI (0))) 22 p22_6) 25 (nI k25_200)) 29 (nI k29_464)) 30 (nI k30_465)) 31 (nI q_9)) (uF (uF fv 19 f19_466) 28 f28_11) gv) H := hP1
    have hD : va_D A (mw h0 ad cs (upd (upd (upd (upd (upd (upd iv 21 (nI (0))) 22 p22_6) 25 (nI k25_200)) 29 (nI k29_464)) 30 (nI k30_465)) 31 (nI q_9)) (uF (uF fv 19 f19_466) 28 f28_11) gv) := hD1.weaken (fun _ _ _ h => hFc _ h)
    have hjl : plS f28_11 (jO sg_16) := q_477
    have hjn : k29_464 = (jO sg_16).length := q_478
    have hfr_479 : ∀ i : Nat, i < 200 * n14 → f19_466 i = fv 19 i := fun i h9 => (q_474 i h9).trans (hfr_28 i h9)
    have hw_480 : cfr f19_466 (200 * n14) (Tm_17 ++ eO sg_16) (200 * n14 + k30_465) := q_475 _ hw_188
    have hlen2 := q_469.len
    refine lv_aload_n hx hb dX9_either_111 rfl (lv_at hl 4 rfl) ?_
    refine va_get (D := D) (ci := 9) (v := .ref (ad 28)) (C := RX9) (T := TX9) (N := 44) hx hb hts hin9 hown hK hP 0 rfl rfl 28 (by decide) (hts (.fieldLink RX9 96 "HoneyHouseModel" "pile" "[I") (List.mem_of_getElem? (i := 5) rfl)) (fun _ h9 => h9) rfl dX9_either_112 ?_
    refine lv_aload_n hx hb dX9_either_115 rfl (lv_at hl 4 rfl) ?_
    refine va_get (D := D) (ci := 9) (v := .int (nI k29_464)) (C := RX9) (T := TX9) (N := 44) hx hb hts hin9 hown hK hP 0 rfl rfl 29 (by decide) (hts (.fieldLink RX9 99 "HoneyHouseModel" "piled" "I") (List.mem_of_getElem? (i := 1) rfl)) (fun _ h9 => h9) rfl dX9_either_116 ?_
    refine lv_iload hx hb dX9_either_119 (lv_at hl 0 rfl) ?_
    refine va_iast (f := f28_11) (n := 32) hx hb hK hP hD hS 19 18 rfl rfl (vp_in_nI (n := k29_464) (by omega) (by omega)) dX9_either_121 (fun H locs hP hD hS => ?_)
    have hP : va_P D vwCl (mw h0 ad cs (upd (upd (upd (upd (upd (upd iv 21 (nI (0))) 22 p22_6) 25 (nI k25_200)) 29 (nI k29_464)) 30 (nI k30_465)) 31 (nI q_9)) (uF (uF fv 19 f19_466) 28 (upd f28_11 (nI k29_464).toNatClampNeg (nI (1)))) gv) H := hP
    have hD : va_D A (mw h0 ad cs (upd (upd (upd (upd (upd (upd iv 21 (nI (0))) 22 p22_6) 25 (nI k25_200)) 29 (nI k29_464)) 30 (nI k30_465)) 31 (nI q_9)) (uF (uF fv 19 f19_466) 28 (upd f28_11 (nI k29_464).toNatClampNeg (nI (1)))) gv) := hD
    obtain ⟨f_481, hf_482⟩ : ∃ g9, g9 = upd f28_11 (nI k29_464).toNatClampNeg (nI (1)) := ⟨_, rfl⟩
    rw [← hf_482] at hP hD
    rw [nI_clamp (n := k29_464) (by omega)] at hf_482
    obtain rfl : gk2_468 = 0 := by omega
    have hp_483 : pil f_481 (k29_464 + 1) x_12 y_13 (gj2_467 + 1) 1 := by rw [hf_482]; exact (q_469.up _).or up_eq
    refine lv_aload_n hx hb dX9_either_122 rfl (lv_at hl 4 rfl) ?_
    refine lv_dup hx hb dX9_either_123 rfl ?_
    refine va_get (D := D) (ci := 9) (v := .int (nI k29_464)) (C := RX9) (T := TX9) (N := 44) hx hb hts hin9 hown hK hP 0 rfl rfl 29 (by decide) (hts (.fieldLink RX9 99 "HoneyHouseModel" "piled" "I") (List.mem_of_getElem? (i := 1) rfl)) (fun _ h9 => h9) rfl dX9_either_124 ?_
    refine lv_iconst (v := 1) hx hb dX9_either_127 (by decide) ?_
    refine lv_iadd hx hb dX9_either_128 ?_
    refine tp_i (y := nI (k29_464 + 1)) (nI_add k29_464 1) ?_
    refine va_put (D := D) (ci := 9) (v := .int (nI (k29_464 + 1))) (ty := .int) (C := RX9) (T := TX9) (N := 44) hx hb hts hin9 tyX9 tyX9_ok nmX9 hown hK hP hD hS 0 rfl rfl 29 (by decide) (hts (.fieldLink RX9 99 "HoneyHouseModel" "piled" "I") (List.mem_of_getElem? (i := 1) rfl)) (fun _ h9 => h9) rfl (tyX9_ok 29 (by decide)) rfl rfl (Nat.le_of_ble_eq_true rfl) dX9_either_129 (fun H locs hP hD hS => ?_)
    have hP : va_P D vwCl (mw h0 ad cs (upd (upd (upd (upd (upd (upd iv 21 (nI (0))) 22 p22_6) 25 (nI k25_200)) 29 (nI (k29_464 + 1))) 30 (nI k30_465)) 31 (nI q_9)) (uF (uF fv 19 f19_466) 28 f_481) gv) H := hP
    have hD : va_D A (mw h0 ad cs (upd (upd (upd (upd (upd (upd iv 21 (nI (0))) 22 p22_6) 25 (nI k25_200)) 29 (nI (k29_464 + 1))) 30 (nI k30_465)) 31 (nI q_9)) (uF (uF fv 19 f19_466) 28 f_481) gv) := hD
    refine lv_aload_n hx hb dX9_either_132 rfl (lv_at hl 4 rfl) ?_
    refine lv_aload_n hx hb dX9_either_133 rfl (lv_at hl 4 rfl) ?_
    refine vp_callSi (W.runV (As := []) (rest := [.ref h0]) ⟨hx, hb, hml, hown, hts⟩ (m_wordEnd l D h0 ad cs (upd (upd (upd (upd (upd (upd iv 21 (nI (0))) 22 p22_6) 25 (nI k25_200)) 29 (nI (k29_464 + 1))) 30 (nI k30_465)) 31 (nI q_9)) (uF (uF fv 19 f19_466) 28 f_481) gv k25_200 n26  rfl h26 (by omega) (by omega)) (cwV 0 hts gX9_either_X9_wordEnd rfl rfl rfl (by decide +kernel) ⟨Nat.le_of_ble_eq_true rfl, Nat.le_of_ble_eq_true rfl⟩) ⟨fun a U g mk q => ⟨q.1, q.2.1, va_K.moved (u := U) (U := U.calling g mk a) (Vm.Alike.refl U.vm) q.2.2⟩, va_recv hK hP (ci := 9) (q0 := 0) rfl rfl, fun U hU hW => ⟨rfl, by rw [hU]; exact hP, va_K.moved hW.alike hK⟩⟩ rfl rfl hl.1 rfl (lv_room (Nat.le_of_ble_eq_true rfl)) dX9_either_134 ⟨Nat.le_of_ble_eq_true rfl, Nat.le_of_ble_eq_true rfl⟩) (fun r_484 k_485 => ?_)
    obtain ⟨e_486, rfl, he_487⟩ := k_485
    have hq_e_486 : e_486 = e_207 := he_487.uq he_208
    refine va_put (D := D) (ci := 9) (v := .int (nI e_486)) (ty := .int) (C := RX9) (T := TX9) (N := 44) hx hb hts hin9 tyX9 tyX9_ok nmX9 hown hK hP hD hS 0 rfl rfl 25 (by decide) (hts (.fieldLink RX9 87 "HoneyHouseModel" "at" "I") (List.mem_of_getElem? (i := 6) rfl)) (fun _ h9 => h9) rfl (tyX9_ok 25 (by decide)) rfl rfl (Nat.le_of_ble_eq_true rfl) dX9_either_137 (fun H locs hP hD hS => ?_)
    have hP : va_P D vwCl (mw h0 ad cs (upd (upd (upd (upd (upd (upd iv 21 (nI (0))) 22 p22_6) 25 (nI e_486)) 29 (nI (k29_464 + 1))) 30 (nI k30_465)) 31 (nI q_9)) (uF (uF fv 19 f19_466) 28 f_481) gv) H := hP
    have hD : va_D A (mw h0 ad cs (upd (upd (upd (upd (upd (upd iv 21 (nI (0))) 22 p22_6) 25 (nI e_486)) 29 (nI (k29_464 + 1))) 30 (nI k30_465)) 31 (nI q_9)) (uF (uF fv 19 f19_466) 28 f_481) gv) := hD
    have hwj : wdE (fv 0) n26 k25_200 = 1 := by omega
    refine lv_iconst (v := 1) hx hb dX9_either_140 (by decide) ?_
    refine lv_istore_n (lv' := [(1, .int 1), (4, .int (nI (1))), (3, .int r_189), (2, .int (nI mo_3)), (0, .ref h0)]) hx hb dX9_either_141 rfl hl (by decide) rfl (fun ls hl => ?_)
    refine lv_goto (tgt := 202) hx hb dX9_either_142 (by decide) ?_
    refine lv_goto (tgt := 19) hx hb dX9_either_202 (by decide) ?_
    exact ih_1 (1, mo_3, e_486, 0, p22_6, k29_464 + 1, k30_465, q_9, f19_466, f_481, x_12, y_13, gj2_467 + 1, 1, 1 :: jO sg_16, Tm_17 ++ eO sg_16) (mw h0 ad cs (upd (upd (upd (upd (upd (upd iv 21 (nI 0)) 22 p22_6) 25 (nI e_486)) 29 (nI (k29_464 + 1))) 30 (nI k30_465)) 31 (nI q_9)) (uF (uF fv 19 f19_466) 28 f_481) gv) _ _ ls (by show 2 * (n26 - e_486) + mo_3 + (1 - 0) < 2 * (n26 - a_4) + mo_3 + (1 - (0)); omega) ⟨rfl, (show 1 ≤ 1 from by omega), (show mo_3 ≤ 1 from by omega), (show 1 ≤ mo_3 ∨ 1 = 0 from by omega), (show e_486 ≤ n26 from by omega), (show 2 * (k30_465 + (gj2_467 + 1) + x_12) ≤ e_486 from by omega), (show 0 ≤ 3 from by omega), (show pil f_481 (k29_464 + 1) x_12 y_13 (gj2_467 + 1) 1 from hp_483), (show q_9 = x_12 + y_13 from by omega), (show x_12 + y_13 ≤ 6 from by omega), (show 1 ≤ 0 ∨ cfr f19_466 (200 * n14) (Tm_17 ++ eO sg_16) (200 * n14 + k30_465) from Or.inr hw_480), (show ∀ i : Nat, i < 200 * n14 → f19_466 i = fv 19 i from hfr_479), (show plS f_481 (1 :: jO sg_16) from (by rw [hf_482]; exact hjl.push hjn (by omega) rfl)), (show (k29_464 + 1) = (1 :: jO sg_16).length from (by rw [List.length_cons]; omega)), (show q_9 = dep (1 :: jO sg_16) from (by rw [dep_n _ (by omega), dep_jO]; omega)), (show 0 = 0 → mo_3 = 1 → Rch (fv 0) n26 (0, skB (fv 0) n26 n25, [], []) (1 - 1, skB (fv 0) n26 e_486, (1 :: jO sg_16), (Tm_17 ++ eO sg_16)) from (fun _ _ => by rw [show skB (fv 0) n26 e_486 = nxF (fv 0) n26 k25_200 from nx_e (by omega) hwj (he_208.r.trans (by omega))]; exact hr7.st (st_or hwj))), (show ¬ 0 = 0 → rcF (fv 0) n26 (0, skB (fv 0) n26 n25, [], []) 0 p22_6 from fun h9 => absurd rfl h9), (show mo_3 = 0 → 0 = 0 → eiE (fv 0) n26 (0, skB (fv 0) n26 n25, [], []) (1 :: jO sg_16) (Tm_17 ++ eO sg_16) e_486 from fun h9 => by omega), (show 0 = 0 → p22_6 = iv 22 from fun _ => hp0_35 rfl)⟩ hP hD hS (lv_sub hl [0, 3, 4] rfl)
  have d_488 := n_ne (a := du_2) (b := 0) (by omega) (by omega) c_373
  obtain rfl : du_2 = 1 := by omega
  have hr7 : Rch (fv 0) n26 (0, skB (fv 0) n26 n25, [], []) (0, k25_200, sg_16, Tm_17) := hr8
  refine lv_iload_n hx hb dX9_either_45 rfl (lv_at hl 1 rfl) ?_
  refine lv_bipush (v := 40) hx hb dX9_either_46 (by decide) ?_
  refine lv_icmp_eq (tgt := 57) hx hb dX9_either_48 (by decide) (fun c_489 => ?_) (fun c_489 => ?_)
  · have hlt40 : k25_191 < n26 := q_196.elim (fun h9 => absurd (h9.1.symm.trans c_489) (by decide)) (fun h9 => h9.1)
    refine lv_aload_n hx hb dX9_either_57 rfl (lv_at hl 4 rfl) ?_
    refine lv_iload_n hx hb dX9_either_58 rfl (lv_at hl 1 rfl) ?_
    refine lv_bipush (v := 40) hx hb dX9_either_59 (by decide) ?_
    refine lv_icmp_ne (tgt := 69) hx hb dX9_either_61 (by decide) (fun c_490 => absurd (c_489) c_490) (fun c_490 => ?_)
    refine lv_bipush (v := 12) hx hb dX9_either_64 (by decide) ?_
    refine lv_goto (tgt := 70) hx hb dX9_either_66 (by decide) ?_
    have hFc := free_all hD hS hA
    refine va_callv (va_runV (As := [.int 12]) (rest := []) ⟨hx, hb, hml, hown, hts⟩ (m_opens l D h0 ad cs (upd (upd (upd (upd (upd (upd iv 21 (nI (0))) 22 p22_6) 25 (nI k25_200)) 29 (nI p_7)) 30 (nI d_8)) 31 (nI q_9)) (uF (uF fv 19 f19_10) 28 f28_11) gv 0 k25_200 n26 p_7 q_9 12 x_12 y_13 j_14 k_15 sg_16 H.size rfl rfl h26 rfl rfl (by omega) (by omega) (by omega) hp_24 (by omega) (by omega) (Or.inl ⟨rfl, by omega⟩) hpl_29 hpn_30) (cwV 1 hts gX9_either_X9_opens rfl rfl rfl (by decide +kernel) ⟨Nat.le_of_ble_eq_true rfl, Nat.le_of_ble_eq_true rfl⟩) ⟨fun a U g mk q => by obtain ⟨q0, q1, qP, qK, qD⟩ := q; exact ⟨q0, q1, qP, va_K.moved (u := U) (U := U.calling g mk a) (Vm.Alike.refl U.vm) qK, qD⟩, va_recv hK hP (ci := 9) (q0 := 0) rfl rfl, fun U hU hW => ⟨rfl, by rw [hU], by rw [hU]; exact hP, va_K.moved hW.alike hK, hD.weaken (fun _ _ _ _ => trivial)⟩⟩ rfl rfl hl.1 rfl (lv_room (Nat.le_of_ble_eq_true rfl)) dX9_either_70 ⟨Nat.le_of_ble_eq_true rfl, Nat.le_of_ble_eq_true rfl⟩) hS (fun q _ h => hFc q h) hFc (fun u t H1 locs ht hvm w_492 hB hz1 hk1 hS => ?_)
    obtain ⟨k21_493, p22_494, k25_495, k29_496, k31_497, f28_498, q_499, q_500, q_501, q_502, hP1, hK1, hD1⟩ := hB
    replace q_500 : (1 ≤ k21_493 ∧ k25_495 = k25_200 ∧ k29_496 = p_7 ∧ k31_497 = q_9 ∧ f28_498 = (f28_11)) ∨ (k21_493 = 0 ∧ k25_200 + 1 ≤ k25_495 ∧ k25_495 ≤ n26 ∧ k31_497 = q_9 + 1 ∧ q_9 ≤ 5 ∧ ∃ x y : Nat, x + y = x_12 + y_13 + 1 ∧ (x = x_12 ∨ (x = x_12 + 1 ∧ k25_200 + 3 ≤ k25_495)) ∧ pil f28_498 k29_496 x y j_14 0) := q_500
    replace q_502 : k21_493 = 0 → p22_494 = (p22_6) := q_502
    rw [ht] at hP1
    have hK := va_K.moved hvm.symm hK1
    generalize H1 = H at hP1 hS ⊢
    have hP : va_P D vwCl (mw h0 ad cs (upd (upd (upd (upd (upd (upd iv 21 (nI k21_493)) 22 p22_494) 25 (nI k25_495)) 29 (nI k29_496)) 30 (nI d_8)) 31 (nI k31_497)) (uF (uF fv 19 f19_10) 28 f28_498) gv) H := hP1
    have hD : va_D A (mw h0 ad cs (upd (upd (upd (upd (upd (upd iv 21 (nI k21_493)) 22 p22_494) 25 (nI k25_495)) 29 (nI k29_496)) 30 (nI d_8)) 31 (nI k31_497)) (uF (uF fv 19 f19_10) 28 f28_498) gv) := hD1.weaken (fun _ _ _ h => hFc _ h)
    have hb40 : k25_200 < n26 ∧ fv 0 k25_200 = 40 := hr0.elim (fun h9 => absurd (h9.1.symm.trans c_489) (by decide)) (fun h9 => ⟨h9.1, h9.2.symm.trans c_489⟩)
    clear hc_209
    rcases q_500 with ⟨hpos_503, e25_504, e29_505, e31_506, e28_507⟩ | ⟨rfl, h1_508, h2_509, h3_510, h5_511, x_512, y_513, hxy_514, hx3_515, hp_516⟩
    · obtain ⟨g_517, g_518, g_519⟩ := q_501.resolve_right (fun h9 => by omega)
      refine lv_goto (tgt := 202) hx hb dX9_either_73 (by decide) ?_
      refine lv_goto (tgt := 19) hx hb dX9_either_202 (by decide) ?_
      exact ih_1 (1, mo_3, k25_495, k21_493, p22_494, k29_496, d_8, k31_497, f19_10, f28_498, x_12, y_13, j_14, k_15, sg_16, Tm_17) (mw h0 ad cs (upd (upd (upd (upd (upd (upd iv 21 (nI k21_493)) 22 p22_494) 25 (nI k25_495)) 29 (nI k29_496)) 30 (nI d_8)) 31 (nI k31_497)) (uF (uF fv 19 f19_10) 28 f28_498) gv) _ _ ls (by show 2 * (n26 - k25_495) + mo_3 + (1 - k21_493) < 2 * (n26 - a_4) + mo_3 + (1 - (0)); omega) ⟨rfl, (show 1 ≤ 1 from by omega), (show mo_3 ≤ 1 from by omega), (show 1 ≤ mo_3 ∨ 1 = 0 from by omega), (show k25_495 ≤ n26 from by omega), (show 2 * (d_8 + j_14 + x_12) ≤ k25_495 from by omega), (show k21_493 ≤ 3 from by omega), (show pil f28_498 k29_496 x_12 y_13 j_14 k_15 from (by rw [e28_507, e29_505]; exact hp_24)), (show k31_497 = x_12 + y_13 from by omega), (show x_12 + y_13 ≤ 6 from by omega), (show 1 ≤ k21_493 ∨ cfr f19_10 (200 * n14) Tm_17 (200 * n14 + d_8) from Or.inl (by omega)), (show ∀ i : Nat, i < 200 * n14 → f19_10 i = fv 19 i from hfr_28), (show plS f28_498 sg_16 from (by rw [e28_507]; exact hpl_29)), (show k29_496 = sg_16.length from (by omega)), (show k31_497 = dep sg_16 from by omega), (show k21_493 = 0 → mo_3 = 1 → Rch (fv 0) n26 (0, skB (fv 0) n26 n25, [], []) (1 - 1, skB (fv 0) n26 k25_495, sg_16, Tm_17) from fun h9 _ => absurd h9 (by omega)), (show ¬ k21_493 = 0 → rcF (fv 0) n26 (0, skB (fv 0) n26 n25, [], []) k21_493 p22_494 from fun _ => ⟨k25_200, g_519, by rw [g_518]; exact hr7.st (st_deep (Or.inl hb40) (by omega))⟩), (show mo_3 = 0 → k21_493 = 0 → eiE (fv 0) n26 (0, skB (fv 0) n26 n25, [], []) sg_16 Tm_17 k25_495 from fun h9 => by omega), (show k21_493 = 0 → p22_494 = iv 22 from fun h9 => absurd h9 (by omega))⟩ hP hD hS (lv_sub hl [2, 3, 4] rfl)
    obtain ⟨g_520, -, g_521, g_522, g_523⟩ := q_501.resolve_left (fun h9 => by omega)
    refine lv_goto (tgt := 202) hx hb dX9_either_73 (by decide) ?_
    refine lv_goto (tgt := 19) hx hb dX9_either_202 (by decide) ?_
    exact ih_1 (1, mo_3, k25_495, 0, p22_494, k29_496, d_8, k31_497, f19_10, f28_498, x_512, y_513, j_14, 0, 12 :: sg_16, Tm_17) (mw h0 ad cs (upd (upd (upd (upd (upd (upd iv 21 (nI 0)) 22 p22_494) 25 (nI k25_495)) 29 (nI k29_496)) 30 (nI d_8)) 31 (nI k31_497)) (uF (uF fv 19 f19_10) 28 f28_498) gv) _ _ ls (by show 2 * (n26 - k25_495) + mo_3 + (1 - 0) < 2 * (n26 - a_4) + mo_3 + (1 - (0)); omega) ⟨rfl, (show 1 ≤ 1 from by omega), (show mo_3 ≤ 1 from by omega), (show 1 ≤ mo_3 ∨ 1 = 0 from by omega), (show k25_495 ≤ n26 from by omega), (show 2 * (d_8 + j_14 + x_512) ≤ k25_495 from by omega), (show 0 ≤ 3 from by omega), (show pil f28_498 k29_496 x_512 y_513 j_14 0 from hp_516), (show k31_497 = x_512 + y_513 from by omega), (show x_512 + y_513 ≤ 6 from by omega), (show 1 ≤ 0 ∨ cfr f19_10 (200 * n14) Tm_17 (200 * n14 + d_8) from Or.inr hw_188), (show ∀ i : Nat, i < 200 * n14 → f19_10 i = fv 19 i from hfr_28), (show plS f28_498 (12 :: sg_16) from g_521), (show k29_496 = (12 :: sg_16).length from (by rw [List.length_cons]; omega)), (show k31_497 = dep (12 :: sg_16) from (by rw [dep_y _ (by omega)]; omega)), (show 0 = 0 → mo_3 = 1 → Rch (fv 0) n26 (0, skB (fv 0) n26 n25, [], []) (1 - 1, skB (fv 0) n26 k25_495, (12 :: sg_16), Tm_17) from (fun _ _ => by rw [show skB (fv 0) n26 k25_495 = nxF (fv 0) n26 k25_200 from nx_4 (wd_40 hb40).2 (by omega)]; exact hr7.st (st_open hb40 (by omega)))), (show ¬ 0 = 0 → rcF (fv 0) n26 (0, skB (fv 0) n26 n25, [], []) 0 p22_494 from fun h9 => absurd rfl h9), (show mo_3 = 0 → 0 = 0 → eiE (fv 0) n26 (0, skB (fv 0) n26 n25, [], []) (12 :: sg_16) Tm_17 k25_495 from fun h9 => by omega), (show 0 = 0 → p22_494 = iv 22 from fun _ => (q_502 rfl).trans (hp0_35 rfl))⟩ hP hD hS (lv_sub hl [2, 3, 4] rfl)
  refine lv_iload hx hb dX9_either_51 (lv_at hl 0 rfl) ?_
  refine lv_iconst (v := 3) hx hb dX9_either_53 (by decide) ?_
  refine lv_icmp_ne (tgt := 76) hx hb dX9_either_54 (by decide) (fun c_524 => ?_) (fun c_524 => ?_)
  · have d_525 := n_ne (a := c_206) (b := 3) (by omega) (by omega) c_524
    refine lv_iload_n hx hb dX9_either_76 rfl (lv_at hl 2 rfl) ?_
    refine lv_if_eq (tgt := 93) hx hb dX9_either_77 (by decide) (fun c_526 => absurd c_526 (by decide)) (fun c_526 => ?_)
    clear hc_209
    refine lv_aload_n hx hb dX9_either_80 rfl (lv_at hl 4 rfl) ?_
    have hFc := free_all hD hS hA
    refine va_callv (va_runV (As := []) (rest := []) ⟨hx, hb, hml, hown, hts⟩ (m_test_ l D h0 ad cs (upd (upd (upd (upd (upd (upd iv 21 (nI (0))) 22 p22_6) 25 (nI k25_200)) 29 (nI p_7)) 30 (nI d_8)) 31 (nI q_9)) (uF (uF fv 19 f19_10) 28 f28_11) gv n14 0 k25_200 n26 d_8  H.size h14 rfl rfl h26 rfl (by omega) (by omega) (by omega) (by omega) (by omega)) (cwV 0 hts gX9_either_X9_test_ rfl rfl rfl (by decide +kernel) ⟨Nat.le_of_ble_eq_true rfl, Nat.le_of_ble_eq_true rfl⟩) ⟨fun a U g mk q => by obtain ⟨q0, q1, qP, qK, qD⟩ := q; exact ⟨q0, q1, qP, va_K.moved (u := U) (U := U.calling g mk a) (Vm.Alike.refl U.vm) qK, qD⟩, va_recv hK hP (ci := 9) (q0 := 0) rfl rfl, fun U hU hW => ⟨rfl, by rw [hU], by rw [hU]; exact hP, va_K.moved hW.alike hK, hD.weaken (fun _ _ _ _ => trivial)⟩⟩ rfl rfl hl.1 rfl (lv_room (Nat.le_of_ble_eq_true rfl)) dX9_either_81 ⟨Nat.le_of_ble_eq_true rfl, Nat.le_of_ble_eq_true rfl⟩) hS (fun q _ h => hFc q h) hFc (fun u t H1 locs ht hvm w_528 hB hz1 hk1 hS => ?_)
    obtain ⟨k21_529, p22_530, k25_531, k30_532, f19_533, q_534, q_535, q_536, q_537, q_538, q_539, hP1, hK1, hD1⟩ := hB
    replace q_537 : (1 ≤ k21_529 ∧ k30_532 = d_8 ∧ f19_533 = (f19_10)) ∨ (k21_529 = 0 ∧ k30_532 = d_8 + 4 ∧ k25_200 + 8 ≤ k25_531 ∧ (∀ i : Nat, i < 200 * n14 + d_8 → f19_533 i = (f19_10) i)) := q_537
    replace q_538 : TSX ((fv 0)) n26 (skB ((fv 0)) n26 k25_200) k21_529 p22_530 k25_531 f19_533 (200 * n14 + d_8) := q_538
    replace q_539 : k21_529 = 0 → p22_530 = (p22_6) := q_539
    rw [ht] at hP1
    have hK := va_K.moved hvm.symm hK1
    generalize H1 = H at hP1 hS ⊢
    have hP : va_P D vwCl (mw h0 ad cs (upd (upd (upd (upd (upd (upd iv 21 (nI k21_529)) 22 p22_530) 25 (nI k25_531)) 29 (nI p_7)) 30 (nI k30_532)) 31 (nI q_9)) (uF (uF fv 19 f19_533) 28 f28_11) gv) H := hP1
    have hD : va_D A (mw h0 ad cs (upd (upd (upd (upd (upd (upd iv 21 (nI k21_529)) 22 p22_530) 25 (nI k25_531)) 29 (nI p_7)) 30 (nI k30_532)) 31 (nI q_9)) (uF (uF fv 19 f19_533) 28 f28_11) gv) := hD1.weaken (fun _ _ _ h => hFc _ h)
    have hno : ¬ ((k25_200 < n26 ∧ fv 0 k25_200 = 40) ∨ wdE (fv 0) n26 k25_200 = 3) := fun h9 => h9.elim (fun q9 => hr0.elim (fun z9 => by omega) (fun z9 => c_489 (z9.2.trans q9.2))) (fun q9 => by omega)
    obtain ⟨P_545, w_546, m_547, v_548, ht_549, h_550, h_551⟩ : TSX (fv 0) n26 k25_200 k21_529 p22_530 k25_531 f19_533 (200 * n14 + d_8) := by rw [← hskb]; exact q_538
    rcases q_537 with ⟨hpos_540, e30_541, e19_542⟩ | ⟨rfl, e30_541, h8_543, hfr_544⟩
    · have hfr_552 : ∀ i : Nat, i < 200 * n14 → f19_533 i = fv 19 i := fun i h9 => by rw [e19_542]; exact hfr_28 i h9
      refine lv_aload_n hx hb dX9_either_84 rfl (lv_at hl 4 rfl) ?_
      have hFc := free_all hD hS hA
      refine va_callv (va_runV (As := []) (rest := []) ⟨hx, hb, hml, hown, hts⟩ (m_nots l D h0 ad cs (upd (upd (upd (upd (upd (upd iv 21 (nI k21_529)) 22 p22_530) 25 (nI k25_531)) 29 (nI p_7)) 30 (nI k30_532)) 31 (nI q_9)) (uF (uF fv 19 f19_533) 28 f28_11) gv n14 p_7 k30_532 q_9 x_12 y_13 j_14 k_15 sg_16 H.size h14 rfl rfl rfl (by omega) hp_24 (by omega) (by omega) (by omega) hpl_29 hpn_30) (cwV 0 hts gX9_either_X9_nots rfl rfl rfl (by decide +kernel) ⟨Nat.le_of_ble_eq_true rfl, Nat.le_of_ble_eq_true rfl⟩) ⟨fun a U g mk q => by obtain ⟨q0, q1, qP, qK, qD⟩ := q; exact ⟨q0, q1, qP, va_K.moved (u := U) (U := U.calling g mk a) (Vm.Alike.refl U.vm) qK, qD⟩, va_recv hK hP (ci := 9) (q0 := 0) rfl rfl, fun U hU hW => ⟨rfl, by rw [hU], by rw [hU]; exact hP, va_K.moved hW.alike hK, hD.weaken (fun _ _ _ _ => trivial)⟩⟩ rfl rfl hl.1 rfl (lv_room (Nat.le_of_ble_eq_true rfl)) dX9_either_85 ⟨Nat.le_of_ble_eq_true rfl, Nat.le_of_ble_eq_true rfl⟩) hS (fun q _ h => hFc q h) hFc (fun u t H1 locs ht hvm w_554 hB hz1 hk1 hS => ?_)
      obtain ⟨k29_555, k30_556, k31_557, f19_558, gx2_559, gk2_560, q_561, q_562, q_563, q_564, q_565, q_566, q_567, q_568, q_569, hP1, hK1, hD1⟩ := hB
      replace q_561 : pil ((f28_11)) k29_555 gx2_559 y_13 j_14 gk2_560 := q_561
      replace q_565 : ∀ i : Nat, i < 200 * n14 → f19_558 i = (f19_533) i := q_565
      replace q_566 : ∀ T9 : List Tk, cfr ((f19_533)) (200 * n14) T9 (200 * n14 + k30_532) → cfr f19_558 (200 * n14) (T9 ++ eN sg_16) (200 * n14 + k30_556) := q_566
      replace q_567 : plS ((f28_11)) (pN sg_16) := q_567
      rw [ht] at hP1
      have hK := va_K.moved hvm.symm hK1
      generalize H1 = H at hP1 hS ⊢
      have hP : va_P D vwCl (mw h0 ad cs (upd (upd (upd (upd (upd (upd iv 21 (nI k21_529)) 22 p22_530) 25 (nI k25_531)) 29 (nI k29_555)) 30 (nI k30_556)) 31 (nI k31_557)) (uF (uF fv 19 f19_558) 28 f28_11) gv) H := hP1
      have hD : va_D A (mw h0 ad cs (upd (upd (upd (upd (upd (upd iv 21 (nI k21_529)) 22 p22_530) 25 (nI k25_531)) 29 (nI k29_555)) 30 (nI k30_556)) 31 (nI k31_557)) (uF (uF fv 19 f19_558) 28 f28_11) gv) := hD1.weaken (fun _ _ _ h => hFc _ h)
      have hfr_570 : ∀ i : Nat, i < 200 * n14 → f19_558 i = fv 19 i := fun i h9 => (q_565 i h9).trans (hfr_552 i h9)
      refine lv_iconst (v := 0) hx hb dX9_either_88 (by decide) ?_
      refine lv_istore_n (lv' := [(1, .int 0), (4, .int (nI c_206)), (3, .int r_189), (2, .int (nI mo_3)), (0, .ref h0)]) hx hb dX9_either_89 rfl hl (by decide) rfl (fun ls hl => ?_)
      refine lv_goto (tgt := 202) hx hb dX9_either_90 (by decide) ?_
      refine lv_goto (tgt := 19) hx hb dX9_either_202 (by decide) ?_
      exact ih_1 (0, mo_3, k25_531, k21_529, p22_530, k29_555, k30_556, k31_557, f19_558, f28_11, gx2_559, y_13, j_14, gk2_560, pN sg_16, Tm_17) (mw h0 ad cs (upd (upd (upd (upd (upd (upd iv 21 (nI k21_529)) 22 p22_530) 25 (nI k25_531)) 29 (nI k29_555)) 30 (nI k30_556)) 31 (nI k31_557)) (uF (uF fv 19 f19_558) 28 f28_11) gv) _ _ ls (by show 2 * (n26 - k25_531) + mo_3 + (1 - k21_529) < 2 * (n26 - a_4) + mo_3 + (1 - (0)); omega) ⟨rfl, (show 0 ≤ 1 from by omega), (show mo_3 ≤ 1 from by omega), (show 1 ≤ mo_3 ∨ 0 = 0 from by omega), (show k25_531 ≤ n26 from by omega), (show 2 * (k30_556 + j_14 + gx2_559) ≤ k25_531 from by omega), (show k21_529 ≤ 3 from by omega), (show pil f28_11 k29_555 gx2_559 y_13 j_14 gk2_560 from q_561), (show k31_557 = gx2_559 + y_13 from by omega), (show gx2_559 + y_13 ≤ 6 from by omega), (show 1 ≤ k21_529 ∨ cfr f19_558 (200 * n14) Tm_17 (200 * n14 + k30_556) from Or.inl (by omega)), (show ∀ i : Nat, i < 200 * n14 → f19_558 i = fv 19 i from hfr_570), (show plS f28_11 (pN sg_16) from q_567), (show k29_555 = (pN sg_16).length from q_568), (show k31_557 = dep (pN sg_16) from by omega), (show k21_529 = 0 → mo_3 = 1 → Rch (fv 0) n26 (0, skB (fv 0) n26 n25, [], []) (1 - 0, skB (fv 0) n26 k25_531, (pN sg_16), Tm_17) from fun h9 _ => absurd h9 (by omega)), (show ¬ k21_529 = 0 → rcF (fv 0) n26 (0, skB (fv 0) n26 n25, [], []) k21_529 p22_530 from fun _ => ⟨P_545, h_551 (by omega), hr7.st (st_tf hno ht_549 (by omega))⟩), (show mo_3 = 0 → k21_529 = 0 → eiE (fv 0) n26 (0, skB (fv 0) n26 n25, [], []) (pN sg_16) Tm_17 k25_531 from fun h9 => by omega), (show k21_529 = 0 → p22_530 = iv 22 from fun h9 => absurd h9 (by omega))⟩ hP hD hS (lv_sub hl [0, 3, 4] rfl)
    have hw_571 : cfr f19_533 (200 * n14) (Tm_17 ++ [(13, w_546, m_547, v_548)]) (200 * n14 + k30_532) := by rw [e30_541]; exact hw_188.te (tst_ok ht_549) hfr_544 (h_550 rfl).2.1 (h_550 rfl).2.2.1 (h_550 rfl).2.2.2.1 (h_550 rfl).2.2.2.2
    have hfr_572 : ∀ i : Nat, i < 200 * n14 → f19_533 i = fv 19 i := fun i h9 => (hfr_544 i (by omega)).trans (hfr_28 i h9)
    refine lv_aload_n hx hb dX9_either_84 rfl (lv_at hl 4 rfl) ?_
    have hFc := free_all hD hS hA
    refine va_callv (va_runV (As := []) (rest := []) ⟨hx, hb, hml, hown, hts⟩ (m_nots l D h0 ad cs (upd (upd (upd (upd (upd (upd iv 21 (nI 0)) 22 p22_530) 25 (nI k25_531)) 29 (nI p_7)) 30 (nI k30_532)) 31 (nI q_9)) (uF (uF fv 19 f19_533) 28 f28_11) gv n14 p_7 k30_532 q_9 x_12 y_13 j_14 k_15 sg_16 H.size h14 rfl rfl rfl (by omega) hp_24 (by omega) (by omega) (by omega) hpl_29 hpn_30) (cwV 0 hts gX9_either_X9_nots rfl rfl rfl (by decide +kernel) ⟨Nat.le_of_ble_eq_true rfl, Nat.le_of_ble_eq_true rfl⟩) ⟨fun a U g mk q => by obtain ⟨q0, q1, qP, qK, qD⟩ := q; exact ⟨q0, q1, qP, va_K.moved (u := U) (U := U.calling g mk a) (Vm.Alike.refl U.vm) qK, qD⟩, va_recv hK hP (ci := 9) (q0 := 0) rfl rfl, fun U hU hW => ⟨rfl, by rw [hU], by rw [hU]; exact hP, va_K.moved hW.alike hK, hD.weaken (fun _ _ _ _ => trivial)⟩⟩ rfl rfl hl.1 rfl (lv_room (Nat.le_of_ble_eq_true rfl)) dX9_either_85 ⟨Nat.le_of_ble_eq_true rfl, Nat.le_of_ble_eq_true rfl⟩) hS (fun q _ h => hFc q h) hFc (fun u t H1 locs ht hvm w_574 hB hz1 hk1 hS => ?_)
    obtain ⟨k29_575, k30_576, k31_577, f19_578, gx2_579, gk2_580, q_581, q_582, q_583, q_584, q_585, q_586, q_587, q_588, q_589, hP1, hK1, hD1⟩ := hB
    replace q_581 : pil ((f28_11)) k29_575 gx2_579 y_13 j_14 gk2_580 := q_581
    replace q_585 : ∀ i : Nat, i < 200 * n14 → f19_578 i = (f19_533) i := q_585
    replace q_586 : ∀ T9 : List Tk, cfr ((f19_533)) (200 * n14) T9 (200 * n14 + k30_532) → cfr f19_578 (200 * n14) (T9 ++ eN sg_16) (200 * n14 + k30_576) := q_586
    replace q_587 : plS ((f28_11)) (pN sg_16) := q_587
    rw [ht] at hP1
    have hK := va_K.moved hvm.symm hK1
    generalize H1 = H at hP1 hS ⊢
    have hP : va_P D vwCl (mw h0 ad cs (upd (upd (upd (upd (upd (upd iv 21 (nI 0)) 22 p22_530) 25 (nI k25_531)) 29 (nI k29_575)) 30 (nI k30_576)) 31 (nI k31_577)) (uF (uF fv 19 f19_578) 28 f28_11) gv) H := hP1
    have hD : va_D A (mw h0 ad cs (upd (upd (upd (upd (upd (upd iv 21 (nI 0)) 22 p22_530) 25 (nI k25_531)) 29 (nI k29_575)) 30 (nI k30_576)) 31 (nI k31_577)) (uF (uF fv 19 f19_578) 28 f28_11) gv) := hD1.weaken (fun _ _ _ h => hFc _ h)
    have hfr_590 : ∀ i : Nat, i < 200 * n14 → f19_578 i = fv 19 i := fun i h9 => (q_585 i h9).trans (hfr_572 i h9)
    refine lv_iconst (v := 0) hx hb dX9_either_88 (by decide) ?_
    refine lv_istore_n (lv' := [(1, .int 0), (4, .int (nI c_206)), (3, .int r_189), (2, .int (nI mo_3)), (0, .ref h0)]) hx hb dX9_either_89 rfl hl (by decide) rfl (fun ls hl => ?_)
    refine lv_goto (tgt := 202) hx hb dX9_either_90 (by decide) ?_
    refine lv_goto (tgt := 19) hx hb dX9_either_202 (by decide) ?_
    exact ih_1 (0, mo_3, k25_531, 0, p22_530, k29_575, k30_576, k31_577, f19_578, f28_11, gx2_579, y_13, j_14, gk2_580, pN sg_16, (Tm_17 ++ [(13, w_546, m_547, v_548)]) ++ eN sg_16) (mw h0 ad cs (upd (upd (upd (upd (upd (upd iv 21 (nI 0)) 22 p22_530) 25 (nI k25_531)) 29 (nI k29_575)) 30 (nI k30_576)) 31 (nI k31_577)) (uF (uF fv 19 f19_578) 28 f28_11) gv) _ _ ls (by show 2 * (n26 - k25_531) + mo_3 + (1 - 0) < 2 * (n26 - a_4) + mo_3 + (1 - (0)); omega) ⟨rfl, (show 0 ≤ 1 from by omega), (show mo_3 ≤ 1 from by omega), (show 1 ≤ mo_3 ∨ 0 = 0 from by omega), (show k25_531 ≤ n26 from by omega), (show 2 * (k30_576 + j_14 + gx2_579) ≤ k25_531 from by omega), (show 0 ≤ 3 from by omega), (show pil f28_11 k29_575 gx2_579 y_13 j_14 gk2_580 from q_581), (show k31_577 = gx2_579 + y_13 from by omega), (show gx2_579 + y_13 ≤ 6 from by omega), (show 1 ≤ 0 ∨ cfr f19_578 (200 * n14) ((Tm_17 ++ [(13, w_546, m_547, v_548)]) ++ eN sg_16) (200 * n14 + k30_576) from Or.inr (q_586 _ hw_571)), (show ∀ i : Nat, i < 200 * n14 → f19_578 i = fv 19 i from hfr_590), (show plS f28_11 (pN sg_16) from q_587), (show k29_575 = (pN sg_16).length from q_588), (show k31_577 = dep (pN sg_16) from by omega), (show 0 = 0 → mo_3 = 1 → Rch (fv 0) n26 (0, skB (fv 0) n26 n25, [], []) (1 - 0, skB (fv 0) n26 k25_531, (pN sg_16), ((Tm_17 ++ [(13, w_546, m_547, v_548)]) ++ eN sg_16)) from (fun _ _ => by rw [(h_550 rfl).1]; exact hr7.st (st_te hno ht_549))), (show ¬ 0 = 0 → rcF (fv 0) n26 (0, skB (fv 0) n26 n25, [], []) 0 p22_530 from fun h9 => absurd rfl h9), (show mo_3 = 0 → 0 = 0 → eiE (fv 0) n26 (0, skB (fv 0) n26 n25, [], []) (pN sg_16) ((Tm_17 ++ [(13, w_546, m_547, v_548)]) ++ eN sg_16) k25_531 from fun h9 => by omega), (show 0 = 0 → p22_530 = iv 22 from fun _ => (q_539 rfl).trans (hp0_35 rfl))⟩ hP hD hS (lv_sub hl [0, 3, 4] rfl)
  have d_591 := n_eq (a := c_206) (b := 3) (by omega) (by omega) c_524
  refine lv_aload_n hx hb dX9_either_57 rfl (lv_at hl 4 rfl) ?_
  refine lv_iload_n hx hb dX9_either_58 rfl (lv_at hl 1 rfl) ?_
  refine lv_bipush (v := 40) hx hb dX9_either_59 (by decide) ?_
  refine lv_icmp_ne (tgt := 69) hx hb dX9_either_61 (by decide) (fun c_592 => ?_) (fun c_592 => absurd c_592 (c_489))
  refine lv_iconst (v := 3) hx hb dX9_either_69 (by decide) ?_
  have hFc := free_all hD hS hA
  refine va_callv (va_runV (As := [.int 3]) (rest := []) ⟨hx, hb, hml, hown, hts⟩ (m_opens l D h0 ad cs (upd (upd (upd (upd (upd (upd iv 21 (nI (0))) 22 p22_6) 25 (nI k25_200)) 29 (nI p_7)) 30 (nI d_8)) 31 (nI q_9)) (uF (uF fv 19 f19_10) 28 f28_11) gv 0 k25_200 n26 p_7 q_9 3 x_12 y_13 j_14 k_15 sg_16 H.size rfl rfl h26 rfl rfl (by omega) (by omega) (by omega) hp_24 (by omega) (by omega) (Or.inr ⟨rfl, by rw [show k25_200 + 3 = e_207 by omega]; exact he_208⟩) hpl_29 hpn_30) (cwV 1 hts gX9_either_X9_opens rfl rfl rfl (by decide +kernel) ⟨Nat.le_of_ble_eq_true rfl, Nat.le_of_ble_eq_true rfl⟩) ⟨fun a U g mk q => by obtain ⟨q0, q1, qP, qK, qD⟩ := q; exact ⟨q0, q1, qP, va_K.moved (u := U) (U := U.calling g mk a) (Vm.Alike.refl U.vm) qK, qD⟩, va_recv hK hP (ci := 9) (q0 := 0) rfl rfl, fun U hU hW => ⟨rfl, by rw [hU], by rw [hU]; exact hP, va_K.moved hW.alike hK, hD.weaken (fun _ _ _ _ => trivial)⟩⟩ rfl rfl hl.1 rfl (lv_room (Nat.le_of_ble_eq_true rfl)) dX9_either_70 ⟨Nat.le_of_ble_eq_true rfl, Nat.le_of_ble_eq_true rfl⟩) hS (fun q _ h => hFc q h) hFc (fun u t H1 locs ht hvm w_594 hB hz1 hk1 hS => ?_)
  obtain ⟨k21_595, p22_596, k25_597, k29_598, k31_599, f28_600, q_601, q_602, q_603, q_604, hP1, hK1, hD1⟩ := hB
  replace q_602 : (1 ≤ k21_595 ∧ k25_597 = k25_200 ∧ k29_598 = p_7 ∧ k31_599 = q_9 ∧ f28_600 = (f28_11)) ∨ (k21_595 = 0 ∧ k25_200 + 1 ≤ k25_597 ∧ k25_597 ≤ n26 ∧ k31_599 = q_9 + 1 ∧ q_9 ≤ 5 ∧ ∃ x y : Nat, x + y = x_12 + y_13 + 1 ∧ (x = x_12 ∨ (x = x_12 + 1 ∧ k25_200 + 3 ≤ k25_597)) ∧ pil f28_600 k29_598 x y j_14 0) := q_602
  replace q_604 : k21_595 = 0 → p22_596 = (p22_6) := q_604
  rw [ht] at hP1
  have hK := va_K.moved hvm.symm hK1
  generalize H1 = H at hP1 hS ⊢
  have hP : va_P D vwCl (mw h0 ad cs (upd (upd (upd (upd (upd (upd iv 21 (nI k21_595)) 22 p22_596) 25 (nI k25_597)) 29 (nI k29_598)) 30 (nI d_8)) 31 (nI k31_599)) (uF (uF fv 19 f19_10) 28 f28_600) gv) H := hP1
  have hD : va_D A (mw h0 ad cs (upd (upd (upd (upd (upd (upd iv 21 (nI k21_595)) 22 p22_596) 25 (nI k25_597)) 29 (nI k29_598)) 30 (nI d_8)) 31 (nI k31_599)) (uF (uF fv 19 f19_10) 28 f28_600) gv) := hD1.weaken (fun _ _ _ h => hFc _ h)
  have hw3 : wdE (fv 0) n26 k25_200 = 3 := by omega
  clear hc_209
  rcases q_602 with ⟨hpos_605, e25_606, e29_607, e31_608, e28_609⟩ | ⟨rfl, h1_610, h2_611, h3_612, h5_613, x_614, y_615, hxy_616, hx3_617, hp_618⟩
  · obtain ⟨g_619, g_620, g_621⟩ := q_603.resolve_right (fun h9 => by omega)
    refine lv_goto (tgt := 202) hx hb dX9_either_73 (by decide) ?_
    refine lv_goto (tgt := 19) hx hb dX9_either_202 (by decide) ?_
    exact ih_1 (1, mo_3, k25_597, k21_595, p22_596, k29_598, d_8, k31_599, f19_10, f28_600, x_12, y_13, j_14, k_15, sg_16, Tm_17) (mw h0 ad cs (upd (upd (upd (upd (upd (upd iv 21 (nI k21_595)) 22 p22_596) 25 (nI k25_597)) 29 (nI k29_598)) 30 (nI d_8)) 31 (nI k31_599)) (uF (uF fv 19 f19_10) 28 f28_600) gv) _ _ ls (by show 2 * (n26 - k25_597) + mo_3 + (1 - k21_595) < 2 * (n26 - a_4) + mo_3 + (1 - (0)); omega) ⟨rfl, (show 1 ≤ 1 from by omega), (show mo_3 ≤ 1 from by omega), (show 1 ≤ mo_3 ∨ 1 = 0 from by omega), (show k25_597 ≤ n26 from by omega), (show 2 * (d_8 + j_14 + x_12) ≤ k25_597 from by omega), (show k21_595 ≤ 3 from by omega), (show pil f28_600 k29_598 x_12 y_13 j_14 k_15 from (by rw [e28_609, e29_607]; exact hp_24)), (show k31_599 = x_12 + y_13 from by omega), (show x_12 + y_13 ≤ 6 from by omega), (show 1 ≤ k21_595 ∨ cfr f19_10 (200 * n14) Tm_17 (200 * n14 + d_8) from Or.inl (by omega)), (show ∀ i : Nat, i < 200 * n14 → f19_10 i = fv 19 i from hfr_28), (show plS f28_600 sg_16 from (by rw [e28_609]; exact hpl_29)), (show k29_598 = sg_16.length from (by omega)), (show k31_599 = dep sg_16 from by omega), (show k21_595 = 0 → mo_3 = 1 → Rch (fv 0) n26 (0, skB (fv 0) n26 n25, [], []) (1 - 1, skB (fv 0) n26 k25_597, sg_16, Tm_17) from fun h9 _ => absurd h9 (by omega)), (show ¬ k21_595 = 0 → rcF (fv 0) n26 (0, skB (fv 0) n26 n25, [], []) k21_595 p22_596 from fun _ => ⟨k25_200, g_621, by rw [g_620]; exact hr7.st (st_deep (Or.inr hw3) (by omega))⟩), (show mo_3 = 0 → k21_595 = 0 → eiE (fv 0) n26 (0, skB (fv 0) n26 n25, [], []) sg_16 Tm_17 k25_597 from fun h9 => by omega), (show k21_595 = 0 → p22_596 = iv 22 from fun h9 => absurd h9 (by omega))⟩ hP hD hS (lv_sub hl [2, 3, 4] rfl)
  obtain ⟨g_622, -, g_623, g_624, g_625⟩ := q_603.resolve_left (fun h9 => by omega)
  refine lv_goto (tgt := 202) hx hb dX9_either_73 (by decide) ?_
  refine lv_goto (tgt := 19) hx hb dX9_either_202 (by decide) ?_
  exact ih_1 (1, mo_3, k25_597, 0, p22_596, k29_598, d_8, k31_599, f19_10, f28_600, x_614, y_615, j_14, 0, 3 :: sg_16, Tm_17) (mw h0 ad cs (upd (upd (upd (upd (upd (upd iv 21 (nI 0)) 22 p22_596) 25 (nI k25_597)) 29 (nI k29_598)) 30 (nI d_8)) 31 (nI k31_599)) (uF (uF fv 19 f19_10) 28 f28_600) gv) _ _ ls (by show 2 * (n26 - k25_597) + mo_3 + (1 - 0) < 2 * (n26 - a_4) + mo_3 + (1 - (0)); omega) ⟨rfl, (show 1 ≤ 1 from by omega), (show mo_3 ≤ 1 from by omega), (show 1 ≤ mo_3 ∨ 1 = 0 from by omega), (show k25_597 ≤ n26 from by omega), (show 2 * (d_8 + j_14 + x_614) ≤ k25_597 from by omega), (show 0 ≤ 3 from by omega), (show pil f28_600 k29_598 x_614 y_615 j_14 0 from hp_618), (show k31_599 = x_614 + y_615 from by omega), (show x_614 + y_615 ≤ 6 from by omega), (show 1 ≤ 0 ∨ cfr f19_10 (200 * n14) Tm_17 (200 * n14 + d_8) from Or.inr hw_188), (show ∀ i : Nat, i < 200 * n14 → f19_10 i = fv 19 i from hfr_28), (show plS f28_600 (3 :: sg_16) from g_623), (show k29_598 = (3 :: sg_16).length from (by rw [List.length_cons]; omega)), (show k31_599 = dep (3 :: sg_16) from (by rw [dep_y _ (by omega)]; omega)), (show 0 = 0 → mo_3 = 1 → Rch (fv 0) n26 (0, skB (fv 0) n26 n25, [], []) (1 - 1, skB (fv 0) n26 k25_597, (3 :: sg_16), Tm_17) from (fun _ _ => by rw [show skB (fv 0) n26 k25_597 = nxF (fv 0) n26 k25_200 from nx_w (by omega) (by omega) hw3 (show k25_597 = k25_200 + 3 by omega)]; exact hr7.st (st_not hw3 (by omega)))), (show ¬ 0 = 0 → rcF (fv 0) n26 (0, skB (fv 0) n26 n25, [], []) 0 p22_596 from fun h9 => absurd rfl h9), (show mo_3 = 0 → 0 = 0 → eiE (fv 0) n26 (0, skB (fv 0) n26 n25, [], []) (3 :: sg_16) Tm_17 k25_597 from fun h9 => by omega), (show 0 = 0 → p22_596 = iv 22 from fun _ => (q_604 rfl).trans (hp0_35 rfl))⟩ hP hD hS (lv_sub hl [2, 3, 4] rfl)
