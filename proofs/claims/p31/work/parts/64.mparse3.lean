theorem dX9_either_0 : decode cX9_either 0 = .ok (.aload_n 0, 1) := by decide +kernel
theorem dX9_either_1 : decode cX9_either 1 = .ok (.iconst 0, 1) := by decide +kernel
theorem dX9_either_2 : decode cX9_either 2 = .ok (.putfield 99, 3) := by decide +kernel
theorem dX9_either_5 : decode cX9_either 5 = .ok (.aload_n 0, 1) := by decide +kernel
theorem dX9_either_6 : decode cX9_either 6 = .ok (.iconst 0, 1) := by decide +kernel
theorem dX9_either_7 : decode cX9_either 7 = .ok (.putfield 102, 3) := by decide +kernel
theorem dX9_either_10 : decode cX9_either 10 = .ok (.aload_n 0, 1) := by decide +kernel
theorem dX9_either_11 : decode cX9_either 11 = .ok (.iconst 0, 1) := by decide +kernel
theorem dX9_either_12 : decode cX9_either 12 = .ok (.putfield 105, 3) := by decide +kernel
theorem dX9_either_15 : decode cX9_either 15 = .ok (.iconst 1, 1) := by decide +kernel
theorem dX9_either_16 : decode cX9_either 16 = .ok (.istore_n 1, 1) := by decide +kernel
theorem dX9_either_17 : decode cX9_either 17 = .ok (.iconst 1, 1) := by decide +kernel
theorem dX9_either_18 : decode cX9_either 18 = .ok (.istore_n 2, 1) := by decide +kernel
theorem dX9_either_19 : decode cX9_either 19 = .ok (.iload_n 2, 1) := by decide +kernel
theorem dX9_either_20 : decode cX9_either 20 = .ok (.ifCond .eq 185, 3) := by decide +kernel
theorem dX9_either_23 : decode cX9_either 23 = .ok (.aload_n 0, 1) := by decide +kernel
theorem dX9_either_24 : decode cX9_either 24 = .ok (.getfield 74, 3) := by decide +kernel
theorem dX9_either_27 : decode cX9_either 27 = .ok (.ifCond .ne 178, 3) := by decide +kernel
theorem dX9_either_30 : decode cX9_either 30 = .ok (.aload_n 0, 1) := by decide +kernel
theorem dX9_either_31 : decode cX9_either 31 = .ok (.invokevirtual 191, 3) := by decide +kernel
theorem dX9_either_34 : decode cX9_either 34 = .ok (.istore_n 3, 1) := by decide +kernel
theorem dX9_either_35 : decode cX9_either 35 = .ok (.aload_n 0, 1) := by decide +kernel
theorem dX9_either_36 : decode cX9_either 36 = .ok (.invokevirtual 238, 3) := by decide +kernel
theorem dX9_either_39 : decode cX9_either 39 = .ok (.istore 4, 2) := by decide +kernel
theorem dX9_either_41 : decode cX9_either 41 = .ok (.iload_n 1, 1) := by decide +kernel
theorem dX9_either_42 : decode cX9_either 42 = .ok (.ifCond .eq 34, 3) := by decide +kernel
theorem dX9_either_45 : decode cX9_either 45 = .ok (.iload_n 3, 1) := by decide +kernel
theorem dX9_either_46 : decode cX9_either 46 = .ok (.bipush 40, 2) := by decide +kernel
theorem dX9_either_48 : decode cX9_either 48 = .ok (.if_icmp .eq 9, 3) := by decide +kernel
theorem dX9_either_51 : decode cX9_either 51 = .ok (.iload 4, 2) := by decide +kernel
theorem dX9_either_53 : decode cX9_either 53 = .ok (.iconst 3, 1) := by decide +kernel
theorem dX9_either_54 : decode cX9_either 54 = .ok (.if_icmp .ne 22, 3) := by decide +kernel
theorem dX9_either_57 : decode cX9_either 57 = .ok (.aload_n 0, 1) := by decide +kernel
theorem dX9_either_58 : decode cX9_either 58 = .ok (.iload_n 3, 1) := by decide +kernel
theorem dX9_either_59 : decode cX9_either 59 = .ok (.bipush 40, 2) := by decide +kernel
theorem dX9_either_61 : decode cX9_either 61 = .ok (.if_icmp .ne 8, 3) := by decide +kernel
theorem dX9_either_64 : decode cX9_either 64 = .ok (.bipush 12, 2) := by decide +kernel
theorem dX9_either_66 : decode cX9_either 66 = .ok (.goto 4, 3) := by decide +kernel
theorem dX9_either_69 : decode cX9_either 69 = .ok (.iconst 3, 1) := by decide +kernel
theorem dX9_either_70 : decode cX9_either 70 = .ok (.invokevirtual 247, 3) := by decide +kernel
theorem dX9_either_73 : decode cX9_either 73 = .ok (.goto 129, 3) := by decide +kernel
theorem dX9_either_76 : decode cX9_either 76 = .ok (.iload_n 1, 1) := by decide +kernel
theorem dX9_either_77 : decode cX9_either 77 = .ok (.ifCond .eq 16, 3) := by decide +kernel
theorem dX9_either_80 : decode cX9_either 80 = .ok (.aload_n 0, 1) := by decide +kernel
theorem dX9_either_81 : decode cX9_either 81 = .ok (.invokevirtual 250, 3) := by decide +kernel
theorem dX9_either_84 : decode cX9_either 84 = .ok (.aload_n 0, 1) := by decide +kernel
theorem dX9_either_85 : decode cX9_either 85 = .ok (.invokevirtual 253, 3) := by decide +kernel
theorem dX9_either_88 : decode cX9_either 88 = .ok (.iconst 0, 1) := by decide +kernel
theorem dX9_either_89 : decode cX9_either 89 = .ok (.istore_n 1, 1) := by decide +kernel
theorem dX9_either_90 : decode cX9_either 90 = .ok (.goto 112, 3) := by decide +kernel
theorem dX9_either_93 : decode cX9_either 93 = .ok (.iload 4, 2) := by decide +kernel
theorem dX9_either_95 : decode cX9_either 95 = .ok (.iconst 2, 1) := by decide +kernel
theorem dX9_either_96 : decode cX9_either 96 = .ok (.if_icmp .eq 9, 3) := by decide +kernel
theorem dX9_either_99 : decode cX9_either 99 = .ok (.iload 4, 2) := by decide +kernel
theorem dX9_either_101 : decode cX9_either 101 = .ok (.iconst 1, 1) := by decide +kernel
theorem dX9_either_102 : decode cX9_either 102 = .ok (.if_icmp .ne 43, 3) := by decide +kernel
theorem dX9_either_105 : decode cX9_either 105 = .ok (.aload_n 0, 1) := by decide +kernel
theorem dX9_either_106 : decode cX9_either 106 = .ok (.iload 4, 2) := by decide +kernel
theorem dX9_either_108 : decode cX9_either 108 = .ok (.invokevirtual 256, 3) := by decide +kernel
theorem dX9_either_111 : decode cX9_either 111 = .ok (.aload_n 0, 1) := by decide +kernel
theorem dX9_either_112 : decode cX9_either 112 = .ok (.getfield 96, 3) := by decide +kernel
theorem dX9_either_115 : decode cX9_either 115 = .ok (.aload_n 0, 1) := by decide +kernel
theorem dX9_either_116 : decode cX9_either 116 = .ok (.getfield 99, 3) := by decide +kernel
theorem dX9_either_119 : decode cX9_either 119 = .ok (.iload 4, 2) := by decide +kernel
theorem dX9_either_121 : decode cX9_either 121 = .ok (.iastore, 1) := by decide +kernel
theorem dX9_either_122 : decode cX9_either 122 = .ok (.aload_n 0, 1) := by decide +kernel
theorem dX9_either_123 : decode cX9_either 123 = .ok (.dup, 1) := by decide +kernel
theorem dX9_either_124 : decode cX9_either 124 = .ok (.getfield 99, 3) := by decide +kernel
theorem dX9_either_127 : decode cX9_either 127 = .ok (.iconst 1, 1) := by decide +kernel
theorem dX9_either_128 : decode cX9_either 128 = .ok (.iadd, 1) := by decide +kernel
theorem dX9_either_129 : decode cX9_either 129 = .ok (.putfield 99, 3) := by decide +kernel
theorem dX9_either_132 : decode cX9_either 132 = .ok (.aload_n 0, 1) := by decide +kernel
theorem dX9_either_133 : decode cX9_either 133 = .ok (.aload_n 0, 1) := by decide +kernel
theorem dX9_either_134 : decode cX9_either 134 = .ok (.invokevirtual 229, 3) := by decide +kernel
theorem dX9_either_137 : decode cX9_either 137 = .ok (.putfield 87, 3) := by decide +kernel
theorem dX9_either_140 : decode cX9_either 140 = .ok (.iconst 1, 1) := by decide +kernel
theorem dX9_either_141 : decode cX9_either 141 = .ok (.istore_n 1, 1) := by decide +kernel
theorem dX9_either_142 : decode cX9_either 142 = .ok (.goto 60, 3) := by decide +kernel
theorem dX9_either_145 : decode cX9_either 145 = .ok (.iload_n 3, 1) := by decide +kernel
theorem dX9_either_146 : decode cX9_either 146 = .ok (.bipush 41, 2) := by decide +kernel
theorem dX9_either_148 : decode cX9_either 148 = .ok (.if_icmp .ne 52, 3) := by decide +kernel
theorem dX9_either_151 : decode cX9_either 151 = .ok (.aload_n 0, 1) := by decide +kernel
theorem dX9_either_152 : decode cX9_either 152 = .ok (.invokevirtual 259, 3) := by decide +kernel
theorem dX9_either_155 : decode cX9_either 155 = .ok (.ifCond .le 45, 3) := by decide +kernel
theorem dX9_either_158 : decode cX9_either 158 = .ok (.aload_n 0, 1) := by decide +kernel
theorem dX9_either_159 : decode cX9_either 159 = .ok (.iconst 1, 1) := by decide +kernel
theorem dX9_either_160 : decode cX9_either 160 = .ok (.invokevirtual 256, 3) := by decide +kernel
theorem dX9_either_163 : decode cX9_either 163 = .ok (.aload_n 0, 1) := by decide +kernel
theorem dX9_either_164 : decode cX9_either 164 = .ok (.dup, 1) := by decide +kernel
theorem dX9_either_165 : decode cX9_either 165 = .ok (.getfield 99, 3) := by decide +kernel
theorem dX9_either_168 : decode cX9_either 168 = .ok (.iconst 1, 1) := by decide +kernel
theorem dX9_either_169 : decode cX9_either 169 = .ok (.isub, 1) := by decide +kernel
theorem dX9_either_170 : decode cX9_either 170 = .ok (.putfield 99, 3) := by decide +kernel
theorem dX9_either_173 : decode cX9_either 173 = .ok (.aload_n 0, 1) := by decide +kernel
theorem dX9_either_174 : decode cX9_either 174 = .ok (.dup, 1) := by decide +kernel
theorem dX9_either_175 : decode cX9_either 175 = .ok (.getfield 105, 3) := by decide +kernel
theorem dX9_either_178 : decode cX9_either 178 = .ok (.iconst 1, 1) := by decide +kernel
theorem dX9_either_179 : decode cX9_either 179 = .ok (.isub, 1) := by decide +kernel
theorem dX9_either_180 : decode cX9_either 180 = .ok (.putfield 105, 3) := by decide +kernel
theorem dX9_either_183 : decode cX9_either 183 = .ok (.aload_n 0, 1) := by decide +kernel
theorem dX9_either_184 : decode cX9_either 184 = .ok (.dup, 1) := by decide +kernel
theorem dX9_either_185 : decode cX9_either 185 = .ok (.getfield 87, 3) := by decide +kernel
theorem dX9_either_188 : decode cX9_either 188 = .ok (.iconst 1, 1) := by decide +kernel
theorem dX9_either_189 : decode cX9_either 189 = .ok (.iadd, 1) := by decide +kernel
theorem dX9_either_190 : decode cX9_either 190 = .ok (.putfield 87, 3) := by decide +kernel
theorem dX9_either_193 : decode cX9_either 193 = .ok (.aload_n 0, 1) := by decide +kernel
theorem dX9_either_194 : decode cX9_either 194 = .ok (.invokevirtual 253, 3) := by decide +kernel
theorem dX9_either_197 : decode cX9_either 197 = .ok (.goto 5, 3) := by decide +kernel
theorem dX9_either_200 : decode cX9_either 200 = .ok (.iconst 0, 1) := by decide +kernel
theorem dX9_either_201 : decode cX9_either 201 = .ok (.istore_n 2, 1) := by decide +kernel
theorem dX9_either_202 : decode cX9_either 202 = .ok (.goto (-183), 3) := by decide +kernel
theorem dX9_either_205 : decode cX9_either 205 = .ok (.aload_n 0, 1) := by decide +kernel
theorem dX9_either_206 : decode cX9_either 206 = .ok (.getfield 74, 3) := by decide +kernel
theorem dX9_either_209 : decode cX9_either 209 = .ok (.ifCond .ne 19, 3) := by decide +kernel
theorem dX9_either_212 : decode cX9_either 212 = .ok (.aload_n 0, 1) := by decide +kernel
theorem dX9_either_213 : decode cX9_either 213 = .ok (.invokevirtual 259, 3) := by decide +kernel
theorem dX9_either_216 : decode cX9_either 216 = .ok (.ifCond .le 12, 3) := by decide +kernel
theorem dX9_either_219 : decode cX9_either 219 = .ok (.aload_n 0, 1) := by decide +kernel
theorem dX9_either_220 : decode cX9_either 220 = .ok (.iconst 1, 1) := by decide +kernel
theorem dX9_either_221 : decode cX9_either 221 = .ok (.aload_n 0, 1) := by decide +kernel
theorem dX9_either_222 : decode cX9_either 222 = .ok (.getfield 87, 3) := by decide +kernel
theorem dX9_either_225 : decode cX9_either 225 = .ok (.invokevirtual 195, 3) := by decide +kernel
theorem dX9_either_228 : decode cX9_either 228 = .ok (.aload_n 0, 1) := by decide +kernel
theorem dX9_either_229 : decode cX9_either 229 = .ok (.iconst 1, 1) := by decide +kernel
theorem dX9_either_230 : decode cX9_either 230 = .ok (.invokevirtual 256, 3) := by decide +kernel
theorem dX9_either_233 : decode cX9_either 233 = .ok (.return_, 1) := by decide +kernel
set_option maxRecDepth 20000 in
theorem ggX9_either_X9_joins : GoodIn wsX9_either wsX9_joins := goodIn_r _ [78, 1, 5, 65, 66, 67, 10, 68, 69, 70, 2, 83, 84, 85, 86, 87, 88, 89, 90, 91, 92, 93, 94, 95, 96, 97, 98, 99, 100, 101, 102, 103, 104, 105, 106, 107, 108, 109, 110, 111, 112, 113, 114, 115, 116, 117, 118, 119, 120, 121, 122, 123, 124, 125, 126] rfl (by decide +kernel)
set_option maxRecDepth 20000 in
theorem gX9_either_X9_joins : GoodIn wsX9_either (wsV RX9 256 RX9 yX9_joins wsX9_joins) := goodIn_app (goodIn_of _ (by decide +kernel)) ggX9_either_X9_joins
set_option maxRecDepth 20000 in
theorem ggX9_either_X9_brackets : GoodIn wsX9_either wsX9_brackets := goodIn_r _ [82, 1, 5, 83, 84, 85, 86, 87, 88, 89, 90, 91, 92, 93, 94, 95, 96, 97, 98, 99, 100, 101, 102, 103, 104, 105, 106, 107, 108, 109, 110, 111, 112, 113, 114, 115, 116, 117, 118, 119, 120, 121, 122, 123, 124, 125, 126] rfl (by decide +kernel)
set_option maxRecDepth 20000 in
theorem gX9_either_X9_brackets : GoodIn wsX9_either (wsV RX9 259 RX9 yX9_brackets wsX9_brackets) := goodIn_app (goodIn_of _ (by decide +kernel)) ggX9_either_X9_brackets
set_option maxRecDepth 20000 in
theorem ggX9_either_X9_blame : GoodIn wsX9_either wsX9_blame := goodIn_r _ [52, 4, 53, 83, 84, 85, 86, 87, 88, 89, 90, 91, 92, 93, 94, 95, 96, 97, 98, 99, 100, 101, 102, 103, 104, 105, 106, 107, 108, 109, 110, 111, 112, 113, 114, 115, 116, 117, 118, 119, 120, 121, 122, 123, 124, 125, 126] rfl (by decide +kernel)
set_option maxRecDepth 20000 in
theorem gX9_either_X9_blame : GoodIn wsX9_either (wsV RX9 195 RX9 yX9_blame wsX9_blame) := goodIn_app (goodIn_of _ (by decide +kernel)) ggX9_either_X9_blame
set_option maxRecDepth 20000 in
theorem ggX9_either_X9_here : GoodIn wsX9_either wsX9_here := goodIn_r _ [11, 6, 12, 13, 83, 84, 85, 86, 87, 88, 89, 90, 91, 92, 93, 94, 95, 96, 97, 98, 99, 100, 101, 102, 103, 104, 105, 106, 107, 108, 109, 110, 111, 112, 113, 114, 115, 116, 117, 118, 119, 120, 121, 122, 123, 124, 125, 126] rfl (by decide +kernel)
set_option maxRecDepth 20000 in
theorem gX9_either_X9_here : GoodIn wsX9_either (wsV RX9 191 RX9 yX9_here wsX9_here) := goodIn_app (goodIn_of _ (by decide +kernel)) ggX9_either_X9_here
set_option maxRecDepth 20000 in
theorem ggX9_either_X9_peek : GoodIn wsX9_either wsX9_peek := goodIn_r _ [17, 7, 8, 9, 10, 11, 6, 12, 13, 18, 19, 20, 21, 22, 23, 24, 25, 26, 27, 28, 29, 30, 31, 32, 33, 34, 35, 36, 37, 38, 39, 40, 41, 42, 43, 44, 83, 84, 85, 86, 87, 88, 89, 90, 91, 92, 93, 94, 95, 96, 97, 98, 99, 100, 101, 102, 103, 104, 105, 106, 107, 108, 109, 110, 111, 112, 113, 114, 115, 116, 117, 118, 119, 120, 121, 122, 123, 124, 125, 126] rfl (by decide +kernel)
set_option maxRecDepth 20000 in
theorem gX9_either_X9_peek : GoodIn wsX9_either (wsV RX9 238 RX9 yX9_peek wsX9_peek) := goodIn_app (goodIn_of _ (by decide +kernel)) ggX9_either_X9_peek
set_option maxRecDepth 20000 in
theorem ggX9_either_X9_nots : GoodIn wsX9_either wsX9_nots := goodIn_r _ [74, 1, 5, 3, 65, 66, 67, 10, 68, 69, 70, 2, 83, 84, 85, 86, 87, 88, 89, 90, 91, 92, 93, 94, 95, 96, 97, 98, 99, 100, 101, 102, 103, 104, 105, 106, 107, 108, 109, 110, 111, 112, 113, 114, 115, 116, 117, 118, 119, 120, 121, 122, 123, 124, 125, 126] rfl (by decide +kernel)
set_option maxRecDepth 20000 in
theorem gX9_either_X9_nots : GoodIn wsX9_either (wsV RX9 253 RX9 yX9_nots wsX9_nots) := goodIn_app (goodIn_of _ (by decide +kernel)) ggX9_either_X9_nots
set_option maxRecDepth 20000 in
theorem ggX9_either_X9_opens : GoodIn wsX9_either wsX9_opens := goodIn_r _ [48, 3, 6, 4, 5, 1, 49, 50, 51, 10, 52, 53, 21, 22, 23, 24, 12, 13, 18, 19, 20, 83, 84, 85, 86, 87, 88, 89, 90, 91, 92, 93, 94, 95, 96, 97, 98, 99, 100, 101, 102, 103, 104, 105, 106, 107, 108, 109, 110, 111, 112, 113, 114, 115, 116, 117, 118, 119, 120, 121, 122, 123, 124, 125, 126] rfl (by decide +kernel)
set_option maxRecDepth 20000 in
theorem gX9_either_X9_opens : GoodIn wsX9_either (wsV RX9 247 RX9 yX9_opens wsX9_opens) := goodIn_app (goodIn_of _ (by decide +kernel)) ggX9_either_X9_opens
set_option maxRecDepth 20000 in
theorem ggX9_either_X9_test_ : GoodIn wsX9_either wsX9_test_ := goodIn_r _ [57, 6, 4, 14, 15, 16, 10, 17, 7, 8, 9, 11, 12, 13, 18, 19, 20, 21, 22, 23, 24, 25, 26, 27, 28, 29, 30, 31, 32, 33, 34, 35, 36, 37, 38, 39, 40, 41, 42, 43, 44, 49, 50, 51, 52, 53, 58, 59, 60, 61, 62, 63, 64, 65, 66, 67, 68, 69, 70, 2, 83, 84, 85, 86, 87, 88, 89, 90, 91, 92, 93, 94, 95, 96, 97, 98, 99, 100, 101, 102, 103, 104, 105, 106, 107, 108, 109, 110, 111, 112, 113, 114, 115, 116, 117, 118, 119, 120, 121, 122, 123, 124, 125, 126] rfl (by decide +kernel)
set_option maxRecDepth 20000 in
theorem gX9_either_X9_test_ : GoodIn wsX9_either (wsV RX9 250 RX9 yX9_test_ wsX9_test_) := goodIn_app (goodIn_of _ (by decide +kernel)) ggX9_either_X9_test_
set_option maxRecDepth 20000 in
theorem ggX9_either_X9_wordEnd : GoodIn wsX9_either wsX9_wordEnd := goodIn_r _ [24, 6, 12, 13, 18, 19, 10, 20, 83, 84, 85, 86, 87, 88, 89, 90, 91, 92, 93, 94, 95, 96, 97, 98, 99, 100, 101, 102, 103, 104, 105, 106, 107, 108, 109, 110, 111, 112, 113, 114, 115, 116, 117, 118, 119, 120, 121, 122, 123, 124, 125, 126] rfl (by decide +kernel)
set_option maxRecDepth 20000 in
theorem gX9_either_X9_wordEnd : GoodIn wsX9_either (wsV RX9 229 RX9 yX9_wordEnd wsX9_wordEnd) := goodIn_app (goodIn_of _ (by decide +kernel)) ggX9_either_X9_wordEnd
/-- a fault of kind k, at p, is come to -/
def rcF (f : Nat → Int32) (n : Nat) (s0 : S4) (k : Nat) (p : Int32) : Prop := ∃ P : Nat, p = nI P ∧ Rch f n s0 (10 + k, P, [], [])
/-- nothing of either goes on at a -/
def eiE (f : Nat → Int32) (n : Nat) (s0 : S4) (σ : List Nat) (T : List Tk) (a : Nat) : Prop := Rch f n s0 (1, a, σ, T) ∧ ¬ (wdE f n a = 1 ∨ wdE f n a = 2) ∧ ¬ ((a < n ∧ f a = 41) ∧ 0 < brk σ) ∧ skB f n a = a
/-- what either leaves behind -/
def EIF (f : Nat → Int32) (n : Nat) (s0 : S4) (k : Nat) (p : Int32) (a : Nat) : Prop := (k = 0 ∧ ∃ T : List Tk, Rch f n s0 (2, skB f n a, [], T)) ∨ (¬ k = 0 ∧ rcF f n s0 k p)
theorem eiE.no {f : Nat → Int32} {n a k : Nat} {p : Int32} {s0 : S4} {σ : List Nat} {T : List Tk} (h : eiE f n s0 σ T a) (hb : 0 < brk σ) (hk : k = 1 ∧ p = nI a) : rcF f n s0 k p := ⟨a, hk.2, by rw [hk.1]; exact h.1.st (st_left h.2.1 (fun q => h.2.2.1 ⟨q, hb⟩) hb)⟩
theorem eiE.ok {f : Nat → Int32} {n a : Nat} {s0 : S4} {σ : List Nat} {T : List Tk} (h : eiE f n s0 σ T a) (hb : brk σ = 0) : ∃ T' : List Tk, Rch f n s0 (2, skB f n a, [], T') := ⟨_, by rw [h.2.2.2]; exact h.1.st (st_end h.2.1 hb)⟩
theorem nx_4 {f : Nat → Int32} {n b a : Nat} (hk : kdF f n b = 4) (ha : a = b + 1) : skB f n a = nxF f n b := by rw [ha, nxF, teF_4 hk]
theorem nx_w {f : Nat → Int32} {n b a j : Nat} (hb : b ≤ n) (hj : j < 11) (hw : wdE f n b = j) (ha : a = b + (wl j).length) : skB f n a = nxF f n b := by rw [ha, nxF, wdE_te hb hj hw]
theorem nx_e {f : Nat → Int32} {n b a j : Nat} (hj : j < 11) (hw : wdE f n b = j) (ha : weL f n b = a) : skB f n a = nxF f n b := by rw [← ha, nxF, teF_1 (wdE_sp hj hw).2]
set_option maxHeartbeats 4000000 in
set_option maxRecDepth 100000 in
theorem m_either (l : Launch) (D : va_G) (h0 : Nat) (ad : Nat → Nat) (cs : Nat → ClassId) (iv : Nat → Int32) (fv : Nat → Nat → Int32) (gv : Nat → Int64) (n14 n21 n25 n26 : Nat)  (sz : Nat) (h14 : iv 14 = nI n14) (h21 : iv 21 = nI n21) (h25 : iv 25 = nI n25) (h26 : iv 26 = nI n26) (b15 : n14 ≤ 15) (z21 : n21 = 0) (b25 : n25 ≤ n26) (b26 : n26 ≤ 400) : Met l yX9_either wsX9_either ({ frames := 4, cells := 0, slots := 0, locals := 91 }) (va_Pc [.ref h0] (fun U => U.heap.size = sz ∧ va_P D vwCl (mw h0 ad cs iv fv gv) U.heap ∧ va_K D vwCl (mT cs) U ∧ va_D (fun _ => True) (mw h0 ad cs iv fv gv))) (va_Qv (fun _ : Unit => True) (fun (_ : Unit) (t : State) => ∃ (k21 : Nat) (p22 : Int32) (k25 : Nat) (k29 : Nat) (k30 : Nat) (k31 : Nat) (f19 : Nat → Int32) (f28 : Nat → Int32), (k21 ≤ 3) ∧ (k25 ≤ n26) ∧ (k30 ≤ 200) ∧ (∀ i : Nat, i < 200 * n14 → f19 i = fv 19 i) ∧ (1 ≤ k21 ∨ ∃ n : Nat, wfs f19 (200 * n14) k30 n) ∧ (EIF (fv 0) n26 (0, skB (fv 0) n26 n25, [], []) k21 p22 k25) ∧ (k21 = 0 → p22 = iv 22) ∧ va_P D vwCl (mw h0 ad cs (upd (upd (upd (upd (upd (upd iv 21 (nI k21)) 22 p22) 25 (nI k25)) 29 (nI k29)) 30 (nI k30)) 31 (nI k31)) (uF (uF fv 19 f19) 28 f28) gv) t.heap ∧ va_K D vwCl (mT cs) t ∧ va_D (va_A (mw h0 ad cs iv fv gv) sz) (mw h0 ad cs (upd (upd (upd (upd (upd (upd iv 21 (nI k21)) 22 p22) 25 (nI k25)) 29 (nI k29)) 30 (nI k30)) 31 (nI k31)) (uF (uF fv 19 f19) 28 f28) gv)) (va_A (mw h0 ad cs iv fv gv) sz)) 0 0 (va_A (mw h0 ad cs iv fv gv) sz) := by
  refine Met.ofW (cc := cX9_either) (maxL := 5) (ret := none) (by decide) rfl ?_
  intro p e s m args below meth c s₁ B hml hv
  obtain ⟨rfl, hsz, hP, hK, hD0⟩ := hv
  have hx := B.exec
  have hb := B.bytes
  have hr := B.returns
  have hts := atoms_spec (ws := wsX9_either) B.pre
  have hown : s.vm.findClass RX9 = some m.cls := findClass_of_methodNamed B.named
  have hlocks := B.notSynchronized
  subst hsz
  have hD := hD0.self (sz := s.heap.size)
  generalize hAe : va_A (mw h0 ad cs iv fv gv) s.heap.size = A at hD ⊢
  have hA : ∀ q : Nat, s.heap.size ≤ q → A q := fun q h => by rw [← hAe]; exact Or.inr h
  have hS : va_S A s.heap s.heap [] := va_S.rf
  have hin9 : ∀ w ∈ u_ws RX9 TX9 44, w ∈ wsX9_either := (fun _ h9 => List.mem_cons_of_mem _ ((List.mem_append_right _ h9)))
  have hl := lv_entry ([.ref h0]) (n := 5) (Nat.le_of_ble_eq_true rfl)
  rw [lg_entry_eq]
  generalize (lg_sl ([.ref h0]) ++ List.replicate (5 - (lg_sl ([.ref h0])).length) Slot.unset).toArray = ls at hl ⊢
  have hl : lv_has ls 5 [(0, .ref h0)] := hl
  refine lv_aload_n hx hb dX9_either_0 rfl (lv_at hl 0 rfl) ?_
  refine lv_iconst (v := 0) hx hb dX9_either_1 (by decide) ?_
  refine va_put (D := D) (ci := 9) (v := .int 0) (ty := .int) (C := RX9) (T := TX9) (N := 44) hx hb hts hin9 tyX9 tyX9_ok nmX9 hown hK hP hD hS 0 rfl rfl 29 (by decide) (hts (.fieldLink RX9 99 "HoneyHouseModel" "piled" "I") (List.mem_of_getElem? (i := 1) rfl)) (fun _ h9 => h9) rfl (tyX9_ok 29 (by decide)) rfl rfl (Nat.le_of_ble_eq_true rfl) dX9_either_2 (fun H locs hP hD hS => ?_)
  have hP : va_P D vwCl (mw h0 ad cs (upd iv 29 0) fv gv) H := hP
  have hD : va_D A (mw h0 ad cs (upd iv 29 0) fv gv) := hD
  refine lv_aload_n hx hb dX9_either_5 rfl (lv_at hl 0 rfl) ?_
  refine lv_iconst (v := 0) hx hb dX9_either_6 (by decide) ?_
  refine va_put (D := D) (ci := 9) (v := .int 0) (ty := .int) (C := RX9) (T := TX9) (N := 44) hx hb hts hin9 tyX9 tyX9_ok nmX9 hown hK hP hD hS 0 rfl rfl 30 (by decide) (hts (.fieldLink RX9 102 "HoneyHouseModel" "made" "I") (List.mem_of_getElem? (i := 2) rfl)) (fun _ h9 => h9) rfl (tyX9_ok 30 (by decide)) rfl rfl (Nat.le_of_ble_eq_true rfl) dX9_either_7 (fun H locs hP hD hS => ?_)
  have hP : va_P D vwCl (mw h0 ad cs (upd (upd iv 29 0) 30 0) fv gv) H := hP
  have hD : va_D A (mw h0 ad cs (upd (upd iv 29 0) 30 0) fv gv) := hD
  refine lv_aload_n hx hb dX9_either_10 rfl (lv_at hl 0 rfl) ?_
  refine lv_iconst (v := 0) hx hb dX9_either_11 (by decide) ?_
  refine va_put (D := D) (ci := 9) (v := .int 0) (ty := .int) (C := RX9) (T := TX9) (N := 44) hx hb hts hin9 tyX9 tyX9_ok nmX9 hown hK hP hD hS 0 rfl rfl 31 (by decide) (hts (.fieldLink RX9 105 "HoneyHouseModel" "deep" "I") (List.mem_of_getElem? (i := 3) rfl)) (fun _ h9 => h9) rfl (tyX9_ok 31 (by decide)) rfl rfl (Nat.le_of_ble_eq_true rfl) dX9_either_12 (fun H locs hP hD hS => ?_)
  have hP : va_P D vwCl (mw h0 ad cs (upd (upd (upd iv 29 0) 30 0) 31 0) fv gv) H := hP
  have hD : va_D A (mw h0 ad cs (upd (upd (upd iv 29 0) 30 0) 31 0) fv gv) := hD
  refine lv_iconst (v := 1) hx hb dX9_either_15 (by decide) ?_
  refine lv_istore_n (lv' := [(1, .int 1), (0, .ref h0)]) hx hb dX9_either_16 rfl hl (by decide) rfl (fun ls hl => ?_)
  refine lv_iconst (v := 1) hx hb dX9_either_17 (by decide) ?_
  refine lv_istore_n (lv' := [(2, .int 1), (1, .int 1), (0, .ref h0)]) hx hb dX9_either_18 rfl hl (by decide) rfl (fun ls hl => ?_)
  have hP : va_P D vwCl (mw h0 ad cs (upd (upd (upd (upd (upd iv 21 (iv 21)) 25 (iv 25)) 29 0) 30 0) 31 0) fv gv) H := hP
  have hD : va_D A (mw h0 ad cs (upd (upd (upd (upd (upd iv 21 (iv 21)) 25 (iv 25)) 29 0) 30 0) 31 0) fv gv) := hD
  rw [h25, h21] at hP hD
  refine lp_V (nL := 5) (σ := Nat × Nat × Nat × Nat × Int32 × Nat × Nat × Nat × (Nat → Int32) × (Nat → Int32) × Nat × Nat × Nat × Nat × (List Nat) × (List Tk)) (lv := fun x9 => [(1, .int (nI x9.1)), (2, .int (nI x9.2.1)), (0, .ref h0)]) (μ := fun x9 => 2 * (n26 - x9.2.2.1) + x9.2.1 + (1 - x9.2.2.2.1)) (J := fun x9 ws9 => ws9 = (mw h0 ad cs (upd (upd (upd (upd (upd (upd iv 21 (nI x9.2.2.2.1)) 22 x9.2.2.2.2.1) 25 (nI x9.2.2.1)) 29 (nI x9.2.2.2.2.2.1)) 30 (nI x9.2.2.2.2.2.2.1)) 31 (nI x9.2.2.2.2.2.2.2.1)) (uF (uF fv 19 x9.2.2.2.2.2.2.2.2.1) 28 x9.2.2.2.2.2.2.2.2.2.1) gv) ∧ (x9.1 ≤ 1) ∧ (x9.2.1 ≤ 1) ∧ (1 ≤ x9.2.1 ∨ x9.1 = 0) ∧ (x9.2.2.1 ≤ n26) ∧ (2 * (x9.2.2.2.2.2.2.1 + x9.2.2.2.2.2.2.2.2.2.2.2.2.1 + x9.2.2.2.2.2.2.2.2.2.2.1) ≤ x9.2.2.1) ∧ (x9.2.2.2.1 ≤ 3) ∧ (pil x9.2.2.2.2.2.2.2.2.2.1 x9.2.2.2.2.2.1 x9.2.2.2.2.2.2.2.2.2.2.1 x9.2.2.2.2.2.2.2.2.2.2.2.1 x9.2.2.2.2.2.2.2.2.2.2.2.2.1 x9.2.2.2.2.2.2.2.2.2.2.2.2.2.1) ∧ (x9.2.2.2.2.2.2.2.1 = x9.2.2.2.2.2.2.2.2.2.2.1 + x9.2.2.2.2.2.2.2.2.2.2.2.1) ∧ (x9.2.2.2.2.2.2.2.2.2.2.1 + x9.2.2.2.2.2.2.2.2.2.2.2.1 ≤ 6) ∧ (1 ≤ x9.2.2.2.1 ∨ wfs x9.2.2.2.2.2.2.2.2.1 (200 * n14) x9.2.2.2.2.2.2.1 (x9.2.2.2.2.2.2.2.2.2.2.2.2.1 + (1 - x9.1))) ∧ (∀ i : Nat, i < 200 * n14 → x9.2.2.2.2.2.2.2.2.1 i = fv 19 i) ∧ (plS x9.2.2.2.2.2.2.2.2.2.1 x9.2.2.2.2.2.2.2.2.2.2.2.2.2.2.1) ∧ (x9.2.2.2.2.2.1 = x9.2.2.2.2.2.2.2.2.2.2.2.2.2.2.1.length) ∧ (x9.2.2.2.2.2.2.2.1 = dep x9.2.2.2.2.2.2.2.2.2.2.2.2.2.2.1) ∧ (x9.2.2.2.1 = 0 → x9.2.1 = 1 → Rch (fv 0) n26 (0, skB (fv 0) n26 n25, [], []) (1 - x9.1, skB (fv 0) n26 x9.2.2.1, x9.2.2.2.2.2.2.2.2.2.2.2.2.2.2.1, x9.2.2.2.2.2.2.2.2.2.2.2.2.2.2.2)) ∧ (¬ x9.2.2.2.1 = 0 → rcF (fv 0) n26 (0, skB (fv 0) n26 n25, [], []) x9.2.2.2.1 x9.2.2.2.2.1) ∧ (x9.2.1 = 0 → x9.2.2.2.1 = 0 → eiE (fv 0) n26 (0, skB (fv 0) n26 n25, [], []) x9.2.2.2.2.2.2.2.2.2.2.2.2.2.2.1 x9.2.2.2.2.2.2.2.2.2.2.2.2.2.2.2 x9.2.2.1) ∧ (x9.2.2.2.1 = 0 → x9.2.2.2.2.1 = iv 22)) (fun x9 ws9 H locs ls hj hP hD hS hl ih_1 => ?_) (1, 1, n25, n21, iv 22, 0, 0, 0, fv 19, fv 28, 0, 0, 0, 0, [], []) (mw h0 ad cs (upd (upd (upd (upd (upd iv 21 (nI n21)) 25 (nI n25)) 29 0) 30 0) 31 0) fv gv) _ _ ls ⟨rfl, (show 1 ≤ 1 from by omega), (show 1 ≤ 1 from by omega), (show 1 ≤ 1 ∨ 1 = 0 from by omega), (show n25 ≤ n26 from by omega), (show 2 * (0 + 0 + 0) ≤ n25 from by omega), (show n21 ≤ 3 from by omega), (show pil (fv 28) 0 0 0 0 0 from pil.nil), (show 0 = 0 + 0 from by omega), (show 0 + 0 ≤ 6 from by omega), (show 1 ≤ n21 ∨ wfs (fv 19) (200 * n14) 0 (0 + (1 - 1)) from Or.inr wfs.nil), (show ∀ i : Nat, i < 200 * n14 → (fv 19) i = fv 19 i from fun i h9 => rfl), (show plS (fv 28) ([]) from trivial), (show 0 = ([]).length from rfl), (show 0 = dep ([]) from rfl), (show n21 = 0 → 1 = 1 → Rch (fv 0) n26 (0, skB (fv 0) n26 n25, [], []) (1 - 1, skB (fv 0) n26 n25, ([]), ([])) from fun _ _ => Rch.rf _), (show ¬ n21 = 0 → rcF (fv 0) n26 (0, skB (fv 0) n26 n25, [], []) n21 (iv 22) from fun h9 => by omega), (show 1 = 0 → n21 = 0 → eiE (fv 0) n26 (0, skB (fv 0) n26 n25, [], []) ([]) ([]) n25 from fun h9 => by omega), (show n21 = 0 → (iv 22) = iv 22 from fun _ => rfl)⟩ hP hD hS (lv_sub hl [1, 0, 2] rfl)
  obtain ⟨du_2, mo_3, a_4, fk_5, p22_6, p_7, d_8, q_9, f19_10, f28_11, x_12, y_13, j_14, k_15, sg_16, Tm_17⟩ := x9
  replace hj : ws9 = (mw h0 ad cs (upd (upd (upd (upd (upd (upd iv 21 (nI fk_5)) 22 p22_6) 25 (nI a_4)) 29 (nI p_7)) 30 (nI d_8)) 31 (nI q_9)) (uF (uF fv 19 f19_10) 28 f28_11) gv) ∧ (du_2 ≤ 1) ∧ (mo_3 ≤ 1) ∧ (1 ≤ mo_3 ∨ du_2 = 0) ∧ (a_4 ≤ n26) ∧ (2 * (d_8 + j_14 + x_12) ≤ a_4) ∧ (fk_5 ≤ 3) ∧ (pil f28_11 p_7 x_12 y_13 j_14 k_15) ∧ (q_9 = x_12 + y_13) ∧ (x_12 + y_13 ≤ 6) ∧ (1 ≤ fk_5 ∨ wfs f19_10 (200 * n14) d_8 (j_14 + (1 - du_2))) ∧ (∀ i : Nat, i < 200 * n14 → f19_10 i = fv 19 i) ∧ (plS f28_11 sg_16) ∧ (p_7 = sg_16.length) ∧ (q_9 = dep sg_16) ∧ (fk_5 = 0 → mo_3 = 1 → Rch (fv 0) n26 (0, skB (fv 0) n26 n25, [], []) (1 - du_2, skB (fv 0) n26 a_4, sg_16, Tm_17)) ∧ (¬ fk_5 = 0 → rcF (fv 0) n26 (0, skB (fv 0) n26 n25, [], []) fk_5 p22_6) ∧ (mo_3 = 0 → fk_5 = 0 → eiE (fv 0) n26 (0, skB (fv 0) n26 n25, [], []) sg_16 Tm_17 a_4) ∧ (fk_5 = 0 → p22_6 = iv 22) := hj
  obtain ⟨rfl, hdu_18, hmo_19, hmd_20, ha_21, hsz_22, hfk_23, hp_24, hq_25, h6_26, hw_27, hfr_28, hpl_29, hpn_30, hdq_31, hrc_32, hrf_33, hre_34, hp0_35⟩ := hj
  have hl : lv_has ls 5 [(1, .int (nI du_2)), (2, .int (nI mo_3)), (0, .ref h0)] := hl
  have hlen := hp_24.len
  refine lv_iload_n hx hb dX9_either_19 rfl (lv_at hl 1 rfl) ?_
  refine lv_if_eq (tgt := 205) hx hb dX9_either_20 (by decide) (fun c_36 => ?_) (fun c_36 => ?_)
  · have d_37 := n_eq (a := mo_3) (b := 0) (by omega) (by omega) c_36
    obtain rfl : du_2 = 0 := by omega
    refine lv_aload_n hx hb dX9_either_205 rfl (lv_at hl 2 rfl) ?_
    refine va_get (D := D) (ci := 9) (v := .int (nI fk_5)) (C := RX9) (T := TX9) (N := 44) hx hb hts hin9 hown hK hP 0 rfl rfl 21 (by decide) (hts (.fieldLink RX9 74 "HoneyHouseModel" "faultKind" "I") (List.mem_of_getElem? (i := 4) rfl)) (fun _ h9 => h9) rfl dX9_either_206 ?_
    refine lv_if_ne (tgt := 228) hx hb dX9_either_209 (by decide) (fun c_38 => ?_) (fun c_38 => ?_)
    · have d_39 := n_ne (a := fk_5) (b := 0) (by omega) (by omega) c_38
      refine lv_aload_n hx hb dX9_either_228 rfl (lv_at hl 2 rfl) ?_
      refine lv_iconst (v := 1) hx hb dX9_either_229 (by decide) ?_
      have hFc := free_all hD hS hA
      refine va_callv (va_runV (As := [.int 1]) (rest := []) ⟨hx, hb, hml, hown, hts⟩ (m_joins l D h0 ad cs (upd (upd (upd (upd (upd (upd iv 21 (nI fk_5)) 22 p22_6) 25 (nI a_4)) 29 (nI p_7)) 30 (nI d_8)) 31 (nI q_9)) (uF (uF fv 19 f19_10) 28 f28_11) gv n14 p_7 d_8 1 x_12 y_13 j_14 k_15 sg_16 H.size h14 rfl rfl (by omega) (by omega) hp_24 (by omega) (by omega) hpl_29 hpn_30) (cwV 1 hts gX9_either_X9_joins rfl rfl rfl (by decide +kernel) ⟨Nat.le_of_ble_eq_true rfl, Nat.le_of_ble_eq_true rfl⟩) ⟨fun a U g mk q => by obtain ⟨q0, q1, qP, qK, qD⟩ := q; exact ⟨q0, q1, qP, va_K.moved (u := U) (U := U.calling g mk a) (Vm.Alike.refl U.vm) qK, qD⟩, va_recv hK hP (ci := 9) (q0 := 0) rfl rfl, fun U hU hW => ⟨rfl, by rw [hU], by rw [hU]; exact hP, va_K.moved hW.alike hK, hD.weaken (fun _ _ _ _ => trivial)⟩⟩ rfl rfl hl.1 rfl (lv_room (Nat.le_of_ble_eq_true rfl)) dX9_either_230 ⟨Nat.le_of_ble_eq_true rfl, Nat.le_of_ble_eq_true rfl⟩) hS (fun q _ h => hFc q h) hFc (fun u t H1 locs ht hvm w_41 hB hz1 hk1 hS => ?_)
      obtain ⟨k29_42, k30_43, f19_44, gj2_45, gk2_46, q_47, q_48, q_49, q_50, q_51, q_52, q_53, q_54, q_55, q_56, hP1, hK1, hD1⟩ := hB
      replace q_47 : pil ((f28_11)) k29_42 x_12 y_13 gj2_45 gk2_46 := q_47
      replace q_51 : ∀ i : Nat, k29_42 ≤ i → i < p_7 → (f28_11) i = 1 ∨ (f28_11) i = 2 := q_51
      replace q_52 : ∀ i : Nat, i < 200 * n14 → f19_44 i = (f19_10) i := q_52
      replace q_53 : wfs ((f19_10)) (200 * n14) d_8 (j_14 + 1) → wfs f19_44 (200 * n14) k30_43 (gj2_45 + 1) := q_53
      replace q_55 : plS ((f28_11)) (jW 1 sg_16) := q_55
      rw [ht] at hP1
      have hK := va_K.moved hvm.symm hK1
      generalize H1 = H at hP1 hS ⊢
      have hP : va_P D vwCl (mw h0 ad cs (upd (upd (upd (upd (upd (upd iv 21 (nI fk_5)) 22 p22_6) 25 (nI a_4)) 29 (nI k29_42)) 30 (nI k30_43)) 31 (nI q_9)) (uF (uF fv 19 f19_44) 28 f28_11) gv) H := hP1
      have hD : va_D A (mw h0 ad cs (upd (upd (upd (upd (upd (upd iv 21 (nI fk_5)) 22 p22_6) 25 (nI a_4)) 29 (nI k29_42)) 30 (nI k30_43)) 31 (nI q_9)) (uF (uF fv 19 f19_44) 28 f28_11) gv) := hD1.weaken (fun _ _ _ h => hFc _ h)
      have hjl : plS f28_11 (jO sg_16) := q_55
      have hjn : k29_42 = (jO sg_16).length := q_56
      have hfr_57 : ∀ i : Nat, i < 200 * n14 → f19_44 i = fv 19 i := fun i h9 => (q_52 i h9).trans (hfr_28 i h9)
      have hlen2 := q_47.len
      have hP : va_P D vwCl (mw h0 ad cs (upd (upd (upd (upd (upd (upd iv 21 (nI fk_5)) 22 p22_6) 25 (nI a_4)) 29 (nI k29_42)) 30 (nI k30_43)) 31 (nI q_9)) (uF (uF fv 19 f19_44) 28 f28_11) gv) H := hP
      have hD : va_D A (mw h0 ad cs (upd (upd (upd (upd (upd (upd iv 21 (nI fk_5)) 22 p22_6) 25 (nI a_4)) 29 (nI k29_42)) 30 (nI k30_43)) 31 (nI q_9)) (uF (uF fv 19 f19_44) 28 f28_11) gv) := hD
      exact W.vret hx hb hr (fun t ht hW => ⟨⟨(), rfl, trivial, fk_5, p22_6, a_4, k29_42, k30_43, q_9, f19_44, f28_11, by omega, by omega, by omega, hfr_57, (hw_27.elim (fun h9 => Or.inl (by omega)) (fun h9 => Or.inr ⟨_, q_53 h9⟩)), (Or.inr ⟨by omega, hrf_33 (by omega)⟩), hp0_35, by rw [ht]; exact hP, va_K.moved hW.alike hK, hD⟩, hS.F ht⟩) hS.2.2 dX9_either_233
    have d_58 := n_eq (a := fk_5) (b := 0) (by omega) (by omega) c_38
    refine lv_aload_n hx hb dX9_either_212 rfl (lv_at hl 2 rfl) ?_
    refine vp_callSi (W.runV (As := []) (rest := []) ⟨hx, hb, hml, hown, hts⟩ (m_brackets l D h0 ad cs (upd (upd (upd (upd (upd (upd iv 21 (nI fk_5)) 22 p22_6) 25 (nI a_4)) 29 (nI p_7)) 30 (nI d_8)) 31 (nI q_9)) (uF (uF fv 19 f19_10) 28 f28_11) gv p_7 sg_16 rfl (by omega) hpl_29 hpn_30) (cwV 0 hts gX9_either_X9_brackets rfl rfl rfl (by decide +kernel) ⟨Nat.le_of_ble_eq_true rfl, Nat.le_of_ble_eq_true rfl⟩) ⟨fun a U g mk q => ⟨q.1, q.2.1, va_K.moved (u := U) (U := U.calling g mk a) (Vm.Alike.refl U.vm) q.2.2⟩, va_recv hK hP (ci := 9) (q0 := 0) rfl rfl, fun U hU hW => ⟨rfl, by rw [hU]; exact hP, va_K.moved hW.alike hK⟩⟩ rfl rfl hl.1 rfl (lv_room (Nat.le_of_ble_eq_true rfl)) dX9_either_213 ⟨Nat.le_of_ble_eq_true rfl, Nat.le_of_ble_eq_true rfl⟩) (fun r_59 k_60 => ?_)
    obtain ⟨b_61, rfl, hb_62, hb_63, hb_64⟩ := k_60
    refine lv_if_le (tgt := 228) hx hb dX9_either_216 (by decide) (fun c_65 => ?_) (fun c_65 => ?_)
    · have d_66 := n_le (a := b_61) (b := 0) (by omega) (by omega) c_65
      refine lv_aload_n hx hb dX9_either_228 rfl (lv_at hl 2 rfl) ?_
      refine lv_iconst (v := 1) hx hb dX9_either_229 (by decide) ?_
      have hFc := free_all hD hS hA
      refine va_callv (va_runV (As := [.int 1]) (rest := []) ⟨hx, hb, hml, hown, hts⟩ (m_joins l D h0 ad cs (upd (upd (upd (upd (upd (upd iv 21 (nI fk_5)) 22 p22_6) 25 (nI a_4)) 29 (nI p_7)) 30 (nI d_8)) 31 (nI q_9)) (uF (uF fv 19 f19_10) 28 f28_11) gv n14 p_7 d_8 1 x_12 y_13 j_14 k_15 sg_16 H.size h14 rfl rfl (by omega) (by omega) hp_24 (by omega) (by omega) hpl_29 hpn_30) (cwV 1 hts gX9_either_X9_joins rfl rfl rfl (by decide +kernel) ⟨Nat.le_of_ble_eq_true rfl, Nat.le_of_ble_eq_true rfl⟩) ⟨fun a U g mk q => by obtain ⟨q0, q1, qP, qK, qD⟩ := q; exact ⟨q0, q1, qP, va_K.moved (u := U) (U := U.calling g mk a) (Vm.Alike.refl U.vm) qK, qD⟩, va_recv hK hP (ci := 9) (q0 := 0) rfl rfl, fun U hU hW => ⟨rfl, by rw [hU], by rw [hU]; exact hP, va_K.moved hW.alike hK, hD.weaken (fun _ _ _ _ => trivial)⟩⟩ rfl rfl hl.1 rfl (lv_room (Nat.le_of_ble_eq_true rfl)) dX9_either_230 ⟨Nat.le_of_ble_eq_true rfl, Nat.le_of_ble_eq_true rfl⟩) hS (fun q _ h => hFc q h) hFc (fun u t H1 locs ht hvm w_68 hB hz1 hk1 hS => ?_)
      obtain ⟨k29_69, k30_70, f19_71, gj2_72, gk2_73, q_74, q_75, q_76, q_77, q_78, q_79, q_80, q_81, q_82, q_83, hP1, hK1, hD1⟩ := hB
      replace q_74 : pil ((f28_11)) k29_69 x_12 y_13 gj2_72 gk2_73 := q_74
      replace q_78 : ∀ i : Nat, k29_69 ≤ i → i < p_7 → (f28_11) i = 1 ∨ (f28_11) i = 2 := q_78
      replace q_79 : ∀ i : Nat, i < 200 * n14 → f19_71 i = (f19_10) i := q_79
      replace q_80 : wfs ((f19_10)) (200 * n14) d_8 (j_14 + 1) → wfs f19_71 (200 * n14) k30_70 (gj2_72 + 1) := q_80
      replace q_82 : plS ((f28_11)) (jW 1 sg_16) := q_82
      rw [ht] at hP1
      have hK := va_K.moved hvm.symm hK1
      generalize H1 = H at hP1 hS ⊢
      have hP : va_P D vwCl (mw h0 ad cs (upd (upd (upd (upd (upd (upd iv 21 (nI fk_5)) 22 p22_6) 25 (nI a_4)) 29 (nI k29_69)) 30 (nI k30_70)) 31 (nI q_9)) (uF (uF fv 19 f19_71) 28 f28_11) gv) H := hP1
      have hD : va_D A (mw h0 ad cs (upd (upd (upd (upd (upd (upd iv 21 (nI fk_5)) 22 p22_6) 25 (nI a_4)) 29 (nI k29_69)) 30 (nI k30_70)) 31 (nI q_9)) (uF (uF fv 19 f19_71) 28 f28_11) gv) := hD1.weaken (fun _ _ _ h => hFc _ h)
      have hjl : plS f28_11 (jO sg_16) := q_82
      have hjn : k29_69 = (jO sg_16).length := q_83
      have hfr_84 : ∀ i : Nat, i < 200 * n14 → f19_71 i = fv 19 i := fun i h9 => (q_79 i h9).trans (hfr_28 i h9)
      have hlen2 := q_74.len
      have hP : va_P D vwCl (mw h0 ad cs (upd (upd (upd (upd (upd (upd iv 21 (nI fk_5)) 22 p22_6) 25 (nI a_4)) 29 (nI k29_69)) 30 (nI k30_70)) 31 (nI q_9)) (uF (uF fv 19 f19_71) 28 f28_11) gv) H := hP
      have hD : va_D A (mw h0 ad cs (upd (upd (upd (upd (upd (upd iv 21 (nI fk_5)) 22 p22_6) 25 (nI a_4)) 29 (nI k29_69)) 30 (nI k30_70)) 31 (nI q_9)) (uF (uF fv 19 f19_71) 28 f28_11) gv) := hD
      exact W.vret hx hb hr (fun t ht hW => ⟨⟨(), rfl, trivial, fk_5, p22_6, a_4, k29_69, k30_70, q_9, f19_71, f28_11, by omega, by omega, by omega, hfr_84, (hw_27.elim (fun h9 => Or.inl (by omega)) (fun h9 => Or.inr ⟨_, q_80 h9⟩)), (Or.inl ⟨by omega, (hre_34 (by omega) (by omega)).ok (by omega)⟩), hp0_35, by rw [ht]; exact hP, va_K.moved hW.alike hK, hD⟩, hS.F ht⟩) hS.2.2 dX9_either_233
    have d_85 := n_nle (a := b_61) (b := 0) (by omega) (by omega) c_65
    refine lv_aload_n hx hb dX9_either_219 rfl (lv_at hl 2 rfl) ?_
    refine lv_iconst (v := 1) hx hb dX9_either_220 (by decide) ?_
    refine lv_aload_n hx hb dX9_either_221 rfl (lv_at hl 2 rfl) ?_
    refine va_get (D := D) (ci := 9) (v := .int (nI a_4)) (C := RX9) (T := TX9) (N := 44) hx hb hts hin9 hown hK hP 0 rfl rfl 25 (by decide) (hts (.fieldLink RX9 87 "HoneyHouseModel" "at" "I") (List.mem_of_getElem? (i := 6) rfl)) (fun _ h9 => h9) rfl dX9_either_222 ?_
    have hFc := free_all hD hS hA
    refine va_callv (va_runV (As := [.int 1, .int (nI a_4)]) (rest := []) ⟨hx, hb, hml, hown, hts⟩ (m_blame l D h0 ad cs (upd (upd (upd (upd (upd (upd iv 21 (nI fk_5)) 22 p22_6) 25 (nI a_4)) 29 (nI p_7)) 30 (nI d_8)) 31 (nI q_9)) (uF (uF fv 19 f19_10) 28 f28_11) gv fk_5 1 (nI a_4) H.size rfl (by omega) (by omega)) (cwV 2 hts gX9_either_X9_blame rfl rfl rfl (by decide +kernel) ⟨Nat.le_of_ble_eq_true rfl, Nat.le_of_ble_eq_true rfl⟩) ⟨fun a U g mk q => by obtain ⟨q0, q1, qP, qK, qD⟩ := q; exact ⟨q0, q1, qP, va_K.moved (u := U) (U := U.calling g mk a) (Vm.Alike.refl U.vm) qK, qD⟩, va_recv hK hP (ci := 9) (q0 := 0) rfl rfl, fun U hU hW => ⟨rfl, by rw [hU], by rw [hU]; exact hP, va_K.moved hW.alike hK, hD.weaken (fun _ _ _ _ => trivial)⟩⟩ rfl rfl hl.1 rfl (lv_room (Nat.le_of_ble_eq_true rfl)) dX9_either_225 ⟨Nat.le_of_ble_eq_true rfl, Nat.le_of_ble_eq_true rfl⟩) hS (fun q _ h => hFc q h) hFc (fun u t H1 locs ht hvm w_87 hB hz1 hk1 hS => ?_)
    obtain ⟨k21_88, p22_89, q_90, q_91, q_92, hP1, hK1, hD1⟩ := hB
    replace q_92 : (fk_5 = 0 → k21_88 = 1 ∧ p22_89 = (nI a_4)) ∧ (¬ fk_5 = 0 → k21_88 = fk_5 ∧ p22_89 = (p22_6)) := q_92
    rw [ht] at hP1
    have hK := va_K.moved hvm.symm hK1
    generalize H1 = H at hP1 hS ⊢
    have hP : va_P D vwCl (mw h0 ad cs (upd (upd (upd (upd (upd (upd iv 21 (nI k21_88)) 22 p22_89) 25 (nI a_4)) 29 (nI p_7)) 30 (nI d_8)) 31 (nI q_9)) (uF (uF fv 19 f19_10) 28 f28_11) gv) H := hP1
    have hD : va_D A (mw h0 ad cs (upd (upd (upd (upd (upd (upd iv 21 (nI k21_88)) 22 p22_89) 25 (nI a_4)) 29 (nI p_7)) 30 (nI d_8)) 31 (nI q_9)) (uF (uF fv 19 f19_10) 28 f28_11) gv) := hD1.weaken (fun _ _ _ h => hFc _ h)
    refine lv_aload_n hx hb dX9_either_228 rfl (lv_at hl 2 rfl) ?_
    refine lv_iconst (v := 1) hx hb dX9_either_229 (by decide) ?_
    have hFc := free_all hD hS hA
    refine va_callv (va_runV (As := [.int 1]) (rest := []) ⟨hx, hb, hml, hown, hts⟩ (m_joins l D h0 ad cs (upd (upd (upd (upd (upd (upd iv 21 (nI k21_88)) 22 p22_89) 25 (nI a_4)) 29 (nI p_7)) 30 (nI d_8)) 31 (nI q_9)) (uF (uF fv 19 f19_10) 28 f28_11) gv n14 p_7 d_8 1 x_12 y_13 j_14 k_15 sg_16 H.size h14 rfl rfl (by omega) (by omega) hp_24 (by omega) (by omega) hpl_29 hpn_30) (cwV 1 hts gX9_either_X9_joins rfl rfl rfl (by decide +kernel) ⟨Nat.le_of_ble_eq_true rfl, Nat.le_of_ble_eq_true rfl⟩) ⟨fun a U g mk q => by obtain ⟨q0, q1, qP, qK, qD⟩ := q; exact ⟨q0, q1, qP, va_K.moved (u := U) (U := U.calling g mk a) (Vm.Alike.refl U.vm) qK, qD⟩, va_recv hK hP (ci := 9) (q0 := 0) rfl rfl, fun U hU hW => ⟨rfl, by rw [hU], by rw [hU]; exact hP, va_K.moved hW.alike hK, hD.weaken (fun _ _ _ _ => trivial)⟩⟩ rfl rfl hl.1 rfl (lv_room (Nat.le_of_ble_eq_true rfl)) dX9_either_230 ⟨Nat.le_of_ble_eq_true rfl, Nat.le_of_ble_eq_true rfl⟩) hS (fun q _ h => hFc q h) hFc (fun u t H1 locs ht hvm w_94 hB hz1 hk1 hS => ?_)
    obtain ⟨k29_95, k30_96, f19_97, gj2_98, gk2_99, q_100, q_101, q_102, q_103, q_104, q_105, q_106, q_107, q_108, q_109, hP1, hK1, hD1⟩ := hB
    replace q_100 : pil ((f28_11)) k29_95 x_12 y_13 gj2_98 gk2_99 := q_100
    replace q_104 : ∀ i : Nat, k29_95 ≤ i → i < p_7 → (f28_11) i = 1 ∨ (f28_11) i = 2 := q_104
    replace q_105 : ∀ i : Nat, i < 200 * n14 → f19_97 i = (f19_10) i := q_105
    replace q_106 : wfs ((f19_10)) (200 * n14) d_8 (j_14 + 1) → wfs f19_97 (200 * n14) k30_96 (gj2_98 + 1) := q_106
    replace q_108 : plS ((f28_11)) (jW 1 sg_16) := q_108
    rw [ht] at hP1
    have hK := va_K.moved hvm.symm hK1
    generalize H1 = H at hP1 hS ⊢
    have hP : va_P D vwCl (mw h0 ad cs (upd (upd (upd (upd (upd (upd iv 21 (nI k21_88)) 22 p22_89) 25 (nI a_4)) 29 (nI k29_95)) 30 (nI k30_96)) 31 (nI q_9)) (uF (uF fv 19 f19_97) 28 f28_11) gv) H := hP1
    have hD : va_D A (mw h0 ad cs (upd (upd (upd (upd (upd (upd iv 21 (nI k21_88)) 22 p22_89) 25 (nI a_4)) 29 (nI k29_95)) 30 (nI k30_96)) 31 (nI q_9)) (uF (uF fv 19 f19_97) 28 f28_11) gv) := hD1.weaken (fun _ _ _ h => hFc _ h)
    have hjl : plS f28_11 (jO sg_16) := q_108
    have hjn : k29_95 = (jO sg_16).length := q_109
    have hfr_110 : ∀ i : Nat, i < 200 * n14 → f19_97 i = fv 19 i := fun i h9 => (q_105 i h9).trans (hfr_28 i h9)
    have hlen2 := q_100.len
    have hP : va_P D vwCl (mw h0 ad cs (upd (upd (upd (upd (upd (upd iv 21 (nI k21_88)) 22 p22_89) 25 (nI a_4)) 29 (nI k29_95)) 30 (nI k30_96)) 31 (nI q_9)) (uF (uF fv 19 f19_97) 28 f28_11) gv) H := hP
    have hD : va_D A (mw h0 ad cs (upd (upd (upd (upd (upd (upd iv 21 (nI k21_88)) 22 p22_89) 25 (nI a_4)) 29 (nI k29_95)) 30 (nI k30_96)) 31 (nI q_9)) (uF (uF fv 19 f19_97) 28 f28_11) gv) := hD
    exact W.vret hx hb hr (fun t ht hW => ⟨⟨(), rfl, trivial, k21_88, p22_89, a_4, k29_95, k30_96, q_9, f19_97, f28_11, by omega, by omega, by omega, hfr_110, Or.inl (by omega), (Or.inr ⟨by omega, (hre_34 (by omega) (by omega)).no (by omega) (q_92.1 (by omega))⟩), fun h9 => absurd h9 (by omega), by rw [ht]; exact hP, va_K.moved hW.alike hK, hD⟩, hS.F ht⟩) hS.2.2 dX9_either_233
  have d_111 := n_ne (a := mo_3) (b := 0) (by omega) (by omega) c_36
  refine lv_aload_n hx hb dX9_either_23 rfl (lv_at hl 2 rfl) ?_
  refine va_get (D := D) (ci := 9) (v := .int (nI fk_5)) (C := RX9) (T := TX9) (N := 44) hx hb hts hin9 hown hK hP 0 rfl rfl 21 (by decide) (hts (.fieldLink RX9 74 "HoneyHouseModel" "faultKind" "I") (List.mem_of_getElem? (i := 4) rfl)) (fun _ h9 => h9) rfl dX9_either_24 ?_
  refine lv_if_ne (tgt := 205) hx hb dX9_either_27 (by decide) (fun c_112 => ?_) (fun c_112 => ?_)
  · have d_113 := n_ne (a := fk_5) (b := 0) (by omega) (by omega) c_112
    refine lv_aload_n hx hb dX9_either_205 rfl (lv_at hl 2 rfl) ?_
    refine va_get (D := D) (ci := 9) (v := .int (nI fk_5)) (C := RX9) (T := TX9) (N := 44) hx hb hts hin9 hown hK hP 0 rfl rfl 21 (by decide) (hts (.fieldLink RX9 74 "HoneyHouseModel" "faultKind" "I") (List.mem_of_getElem? (i := 4) rfl)) (fun _ h9 => h9) rfl dX9_either_206 ?_
    refine lv_if_ne (tgt := 228) hx hb dX9_either_209 (by decide) (fun c_114 => ?_) (fun c_114 => ?_)
    · have d_115 := n_ne (a := fk_5) (b := 0) (by omega) (by omega) c_114
      refine lv_aload_n hx hb dX9_either_228 rfl (lv_at hl 2 rfl) ?_
      refine lv_iconst (v := 1) hx hb dX9_either_229 (by decide) ?_
      have hFc := free_all hD hS hA
      refine va_callv (va_runV (As := [.int 1]) (rest := []) ⟨hx, hb, hml, hown, hts⟩ (m_joins l D h0 ad cs (upd (upd (upd (upd (upd (upd iv 21 (nI fk_5)) 22 p22_6) 25 (nI a_4)) 29 (nI p_7)) 30 (nI d_8)) 31 (nI q_9)) (uF (uF fv 19 f19_10) 28 f28_11) gv n14 p_7 d_8 1 x_12 y_13 j_14 k_15 sg_16 H.size h14 rfl rfl (by omega) (by omega) hp_24 (by omega) (by omega) hpl_29 hpn_30) (cwV 1 hts gX9_either_X9_joins rfl rfl rfl (by decide +kernel) ⟨Nat.le_of_ble_eq_true rfl, Nat.le_of_ble_eq_true rfl⟩) ⟨fun a U g mk q => by obtain ⟨q0, q1, qP, qK, qD⟩ := q; exact ⟨q0, q1, qP, va_K.moved (u := U) (U := U.calling g mk a) (Vm.Alike.refl U.vm) qK, qD⟩, va_recv hK hP (ci := 9) (q0 := 0) rfl rfl, fun U hU hW => ⟨rfl, by rw [hU], by rw [hU]; exact hP, va_K.moved hW.alike hK, hD.weaken (fun _ _ _ _ => trivial)⟩⟩ rfl rfl hl.1 rfl (lv_room (Nat.le_of_ble_eq_true rfl)) dX9_either_230 ⟨Nat.le_of_ble_eq_true rfl, Nat.le_of_ble_eq_true rfl⟩) hS (fun q _ h => hFc q h) hFc (fun u t H1 locs ht hvm w_117 hB hz1 hk1 hS => ?_)
      obtain ⟨k29_118, k30_119, f19_120, gj2_121, gk2_122, q_123, q_124, q_125, q_126, q_127, q_128, q_129, q_130, q_131, q_132, hP1, hK1, hD1⟩ := hB
      replace q_123 : pil ((f28_11)) k29_118 x_12 y_13 gj2_121 gk2_122 := q_123
      replace q_127 : ∀ i : Nat, k29_118 ≤ i → i < p_7 → (f28_11) i = 1 ∨ (f28_11) i = 2 := q_127
      replace q_128 : ∀ i : Nat, i < 200 * n14 → f19_120 i = (f19_10) i := q_128
      replace q_129 : wfs ((f19_10)) (200 * n14) d_8 (j_14 + 1) → wfs f19_120 (200 * n14) k30_119 (gj2_121 + 1) := q_129
      replace q_131 : plS ((f28_11)) (jW 1 sg_16) := q_131
      rw [ht] at hP1
      have hK := va_K.moved hvm.symm hK1
      generalize H1 = H at hP1 hS ⊢
      have hP : va_P D vwCl (mw h0 ad cs (upd (upd (upd (upd (upd (upd iv 21 (nI fk_5)) 22 p22_6) 25 (nI a_4)) 29 (nI k29_118)) 30 (nI k30_119)) 31 (nI q_9)) (uF (uF fv 19 f19_120) 28 f28_11) gv) H := hP1
      have hD : va_D A (mw h0 ad cs (upd (upd (upd (upd (upd (upd iv 21 (nI fk_5)) 22 p22_6) 25 (nI a_4)) 29 (nI k29_118)) 30 (nI k30_119)) 31 (nI q_9)) (uF (uF fv 19 f19_120) 28 f28_11) gv) := hD1.weaken (fun _ _ _ h => hFc _ h)
      have hjl : plS f28_11 (jO sg_16) := q_131
      have hjn : k29_118 = (jO sg_16).length := q_132
      have hfr_133 : ∀ i : Nat, i < 200 * n14 → f19_120 i = fv 19 i := fun i h9 => (q_128 i h9).trans (hfr_28 i h9)
      have hlen2 := q_123.len
      have hP : va_P D vwCl (mw h0 ad cs (upd (upd (upd (upd (upd (upd iv 21 (nI fk_5)) 22 p22_6) 25 (nI a_4)) 29 (nI k29_118)) 30 (nI k30_119)) 31 (nI q_9)) (uF (uF fv 19 f19_120) 28 f28_11) gv) H := hP
      have hD : va_D A (mw h0 ad cs (upd (upd (upd (upd (upd (upd iv 21 (nI fk_5)) 22 p22_6) 25 (nI a_4)) 29 (nI k29_118)) 30 (nI k30_119)) 31 (nI q_9)) (uF (uF fv 19 f19_120) 28 f28_11) gv) := hD
      exact W.vret hx hb hr (fun t ht hW => ⟨⟨(), rfl, trivial, fk_5, p22_6, a_4, k29_118, k30_119, q_9, f19_120, f28_11, by omega, by omega, by omega, hfr_133, Or.inl (by omega), (Or.inr ⟨by omega, hrf_33 (by omega)⟩), hp0_35, by rw [ht]; exact hP, va_K.moved hW.alike hK, hD⟩, hS.F ht⟩) hS.2.2 dX9_either_233
    have d_134 := n_eq (a := fk_5) (b := 0) (by omega) (by omega) c_114
    refine lv_aload_n hx hb dX9_either_212 rfl (lv_at hl 2 rfl) ?_
    refine vp_callSi (W.runV (As := []) (rest := []) ⟨hx, hb, hml, hown, hts⟩ (m_brackets l D h0 ad cs (upd (upd (upd (upd (upd (upd iv 21 (nI fk_5)) 22 p22_6) 25 (nI a_4)) 29 (nI p_7)) 30 (nI d_8)) 31 (nI q_9)) (uF (uF fv 19 f19_10) 28 f28_11) gv p_7 sg_16 rfl (by omega) hpl_29 hpn_30) (cwV 0 hts gX9_either_X9_brackets rfl rfl rfl (by decide +kernel) ⟨Nat.le_of_ble_eq_true rfl, Nat.le_of_ble_eq_true rfl⟩) ⟨fun a U g mk q => ⟨q.1, q.2.1, va_K.moved (u := U) (U := U.calling g mk a) (Vm.Alike.refl U.vm) q.2.2⟩, va_recv hK hP (ci := 9) (q0 := 0) rfl rfl, fun U hU hW => ⟨rfl, by rw [hU]; exact hP, va_K.moved hW.alike hK⟩⟩ rfl rfl hl.1 rfl (lv_room (Nat.le_of_ble_eq_true rfl)) dX9_either_213 ⟨Nat.le_of_ble_eq_true rfl, Nat.le_of_ble_eq_true rfl⟩) (fun r_135 k_136 => ?_)
    obtain ⟨b_137, rfl, hb_138, hb_139, hb_140⟩ := k_136
    refine lv_if_le (tgt := 228) hx hb dX9_either_216 (by decide) (fun c_141 => ?_) (fun c_141 => ?_)
    · have d_142 := n_le (a := b_137) (b := 0) (by omega) (by omega) c_141
      refine lv_aload_n hx hb dX9_either_228 rfl (lv_at hl 2 rfl) ?_
      refine lv_iconst (v := 1) hx hb dX9_either_229 (by decide) ?_
      have hFc := free_all hD hS hA
      refine va_callv (va_runV (As := [.int 1]) (rest := []) ⟨hx, hb, hml, hown, hts⟩ (m_joins l D h0 ad cs (upd (upd (upd (upd (upd (upd iv 21 (nI fk_5)) 22 p22_6) 25 (nI a_4)) 29 (nI p_7)) 30 (nI d_8)) 31 (nI q_9)) (uF (uF fv 19 f19_10) 28 f28_11) gv n14 p_7 d_8 1 x_12 y_13 j_14 k_15 sg_16 H.size h14 rfl rfl (by omega) (by omega) hp_24 (by omega) (by omega) hpl_29 hpn_30) (cwV 1 hts gX9_either_X9_joins rfl rfl rfl (by decide +kernel) ⟨Nat.le_of_ble_eq_true rfl, Nat.le_of_ble_eq_true rfl⟩) ⟨fun a U g mk q => by obtain ⟨q0, q1, qP, qK, qD⟩ := q; exact ⟨q0, q1, qP, va_K.moved (u := U) (U := U.calling g mk a) (Vm.Alike.refl U.vm) qK, qD⟩, va_recv hK hP (ci := 9) (q0 := 0) rfl rfl, fun U hU hW => ⟨rfl, by rw [hU], by rw [hU]; exact hP, va_K.moved hW.alike hK, hD.weaken (fun _ _ _ _ => trivial)⟩⟩ rfl rfl hl.1 rfl (lv_room (Nat.le_of_ble_eq_true rfl)) dX9_either_230 ⟨Nat.le_of_ble_eq_true rfl, Nat.le_of_ble_eq_true rfl⟩) hS (fun q _ h => hFc q h) hFc (fun u t H1 locs ht hvm w_144 hB hz1 hk1 hS => ?_)
      obtain ⟨k29_145, k30_146, f19_147, gj2_148, gk2_149, q_150, q_151, q_152, q_153, q_154, q_155, q_156, q_157, q_158, q_159, hP1, hK1, hD1⟩ := hB
      replace q_150 : pil ((f28_11)) k29_145 x_12 y_13 gj2_148 gk2_149 := q_150
      replace q_154 : ∀ i : Nat, k29_145 ≤ i → i < p_7 → (f28_11) i = 1 ∨ (f28_11) i = 2 := q_154
      replace q_155 : ∀ i : Nat, i < 200 * n14 → f19_147 i = (f19_10) i := q_155
      replace q_156 : wfs ((f19_10)) (200 * n14) d_8 (j_14 + 1) → wfs f19_147 (200 * n14) k30_146 (gj2_148 + 1) := q_156
      replace q_158 : plS ((f28_11)) (jW 1 sg_16) := q_158
      rw [ht] at hP1
      have hK := va_K.moved hvm.symm hK1
      generalize H1 = H at hP1 hS ⊢
      have hP : va_P D vwCl (mw h0 ad cs (upd (upd (upd (upd (upd (upd iv 21 (nI fk_5)) 22 p22_6) 25 (nI a_4)) 29 (nI k29_145)) 30 (nI k30_146)) 31 (nI q_9)) (uF (uF fv 19 f19_147) 28 f28_11) gv) H := hP1
      have hD : va_D A (mw h0 ad cs (upd (upd (upd (upd (upd (upd iv 21 (nI fk_5)) 22 p22_6) 25 (nI a_4)) 29 (nI k29_145)) 30 (nI k30_146)) 31 (nI q_9)) (uF (uF fv 19 f19_147) 28 f28_11) gv) := hD1.weaken (fun _ _ _ h => hFc _ h)
      have hjl : plS f28_11 (jO sg_16) := q_158
      have hjn : k29_145 = (jO sg_16).length := q_159
      have hfr_160 : ∀ i : Nat, i < 200 * n14 → f19_147 i = fv 19 i := fun i h9 => (q_155 i h9).trans (hfr_28 i h9)
      have hlen2 := q_150.len
      have hP : va_P D vwCl (mw h0 ad cs (upd (upd (upd (upd (upd (upd iv 21 (nI fk_5)) 22 p22_6) 25 (nI a_4)) 29 (nI k29_145)) 30 (nI k30_146)) 31 (nI q_9)) (uF (uF fv 19 f19_147) 28 f28_11) gv) H := hP
      have hD : va_D A (mw h0 ad cs (upd (upd (upd (upd (upd (upd iv 21 (nI fk_5)) 22 p22_6) 25 (nI a_4)) 29 (nI k29_145)) 30 (nI k30_146)) 31 (nI q_9)) (uF (uF fv 19 f19_147) 28 f28_11) gv) := hD
      exact W.vret hx hb hr (fun t ht hW => ⟨⟨(), rfl, trivial, fk_5, p22_6, a_4, k29_145, k30_146, q_9, f19_147, f28_11, by omega, by omega, by omega, hfr_160, Or.inl (by omega), (by exfalso; omega), hp0_35, by rw [ht]; exact hP, va_K.moved hW.alike hK, hD⟩, hS.F ht⟩) hS.2.2 dX9_either_233
    have d_161 := n_nle (a := b_137) (b := 0) (by omega) (by omega) c_141
    refine lv_aload_n hx hb dX9_either_219 rfl (lv_at hl 2 rfl) ?_
    refine lv_iconst (v := 1) hx hb dX9_either_220 (by decide) ?_
    refine lv_aload_n hx hb dX9_either_221 rfl (lv_at hl 2 rfl) ?_
    refine va_get (D := D) (ci := 9) (v := .int (nI a_4)) (C := RX9) (T := TX9) (N := 44) hx hb hts hin9 hown hK hP 0 rfl rfl 25 (by decide) (hts (.fieldLink RX9 87 "HoneyHouseModel" "at" "I") (List.mem_of_getElem? (i := 6) rfl)) (fun _ h9 => h9) rfl dX9_either_222 ?_
    have hFc := free_all hD hS hA
    refine va_callv (va_runV (As := [.int 1, .int (nI a_4)]) (rest := []) ⟨hx, hb, hml, hown, hts⟩ (m_blame l D h0 ad cs (upd (upd (upd (upd (upd (upd iv 21 (nI fk_5)) 22 p22_6) 25 (nI a_4)) 29 (nI p_7)) 30 (nI d_8)) 31 (nI q_9)) (uF (uF fv 19 f19_10) 28 f28_11) gv fk_5 1 (nI a_4) H.size rfl (by omega) (by omega)) (cwV 2 hts gX9_either_X9_blame rfl rfl rfl (by decide +kernel) ⟨Nat.le_of_ble_eq_true rfl, Nat.le_of_ble_eq_true rfl⟩) ⟨fun a U g mk q => by obtain ⟨q0, q1, qP, qK, qD⟩ := q; exact ⟨q0, q1, qP, va_K.moved (u := U) (U := U.calling g mk a) (Vm.Alike.refl U.vm) qK, qD⟩, va_recv hK hP (ci := 9) (q0 := 0) rfl rfl, fun U hU hW => ⟨rfl, by rw [hU], by rw [hU]; exact hP, va_K.moved hW.alike hK, hD.weaken (fun _ _ _ _ => trivial)⟩⟩ rfl rfl hl.1 rfl (lv_room (Nat.le_of_ble_eq_true rfl)) dX9_either_225 ⟨Nat.le_of_ble_eq_true rfl, Nat.le_of_ble_eq_true rfl⟩) hS (fun q _ h => hFc q h) hFc (fun u t H1 locs ht hvm w_163 hB hz1 hk1 hS => ?_)
    obtain ⟨k21_164, p22_165, q_166, q_167, q_168, hP1, hK1, hD1⟩ := hB
    replace q_168 : (fk_5 = 0 → k21_164 = 1 ∧ p22_165 = (nI a_4)) ∧ (¬ fk_5 = 0 → k21_164 = fk_5 ∧ p22_165 = (p22_6)) := q_168
    rw [ht] at hP1
    have hK := va_K.moved hvm.symm hK1
    generalize H1 = H at hP1 hS ⊢
    have hP : va_P D vwCl (mw h0 ad cs (upd (upd (upd (upd (upd (upd iv 21 (nI k21_164)) 22 p22_165) 25 (nI a_4)) 29 (nI p_7)) 30 (nI d_8)) 31 (nI q_9)) (uF (uF fv 19 f19_10) 28 f28_11) gv) H := hP1
    have hD : va_D A (mw h0 ad cs (upd (upd (upd (upd (upd (upd iv 21 (nI k21_164)) 22 p22_165) 25 (nI a_4)) 29 (nI p_7)) 30 (nI d_8)) 31 (nI q_9)) (uF (uF fv 19 f19_10) 28 f28_11) gv) := hD1.weaken (fun _ _ _ h => hFc _ h)
    refine lv_aload_n hx hb dX9_either_228 rfl (lv_at hl 2 rfl) ?_
    refine lv_iconst (v := 1) hx hb dX9_either_229 (by decide) ?_
    have hFc := free_all hD hS hA
    refine va_callv (va_runV (As := [.int 1]) (rest := []) ⟨hx, hb, hml, hown, hts⟩ (m_joins l D h0 ad cs (upd (upd (upd (upd (upd (upd iv 21 (nI k21_164)) 22 p22_165) 25 (nI a_4)) 29 (nI p_7)) 30 (nI d_8)) 31 (nI q_9)) (uF (uF fv 19 f19_10) 28 f28_11) gv n14 p_7 d_8 1 x_12 y_13 j_14 k_15 sg_16 H.size h14 rfl rfl (by omega) (by omega) hp_24 (by omega) (by omega) hpl_29 hpn_30) (cwV 1 hts gX9_either_X9_joins rfl rfl rfl (by decide +kernel) ⟨Nat.le_of_ble_eq_true rfl, Nat.le_of_ble_eq_true rfl⟩) ⟨fun a U g mk q => by obtain ⟨q0, q1, qP, qK, qD⟩ := q; exact ⟨q0, q1, qP, va_K.moved (u := U) (U := U.calling g mk a) (Vm.Alike.refl U.vm) qK, qD⟩, va_recv hK hP (ci := 9) (q0 := 0) rfl rfl, fun U hU hW => ⟨rfl, by rw [hU], by rw [hU]; exact hP, va_K.moved hW.alike hK, hD.weaken (fun _ _ _ _ => trivial)⟩⟩ rfl rfl hl.1 rfl (lv_room (Nat.le_of_ble_eq_true rfl)) dX9_either_230 ⟨Nat.le_of_ble_eq_true rfl, Nat.le_of_ble_eq_true rfl⟩) hS (fun q _ h => hFc q h) hFc (fun u t H1 locs ht hvm w_170 hB hz1 hk1 hS => ?_)
    obtain ⟨k29_171, k30_172, f19_173, gj2_174, gk2_175, q_176, q_177, q_178, q_179, q_180, q_181, q_182, q_183, q_184, q_185, hP1, hK1, hD1⟩ := hB
    replace q_176 : pil ((f28_11)) k29_171 x_12 y_13 gj2_174 gk2_175 := q_176
    replace q_180 : ∀ i : Nat, k29_171 ≤ i → i < p_7 → (f28_11) i = 1 ∨ (f28_11) i = 2 := q_180
    replace q_181 : ∀ i : Nat, i < 200 * n14 → f19_173 i = (f19_10) i := q_181
    replace q_182 : wfs ((f19_10)) (200 * n14) d_8 (j_14 + 1) → wfs f19_173 (200 * n14) k30_172 (gj2_174 + 1) := q_182
    replace q_184 : plS ((f28_11)) (jW 1 sg_16) := q_184
    rw [ht] at hP1
    have hK := va_K.moved hvm.symm hK1
    generalize H1 = H at hP1 hS ⊢
    have hP : va_P D vwCl (mw h0 ad cs (upd (upd (upd (upd (upd (upd iv 21 (nI k21_164)) 22 p22_165) 25 (nI a_4)) 29 (nI k29_171)) 30 (nI k30_172)) 31 (nI q_9)) (uF (uF fv 19 f19_173) 28 f28_11) gv) H := hP1
    have hD : va_D A (mw h0 ad cs (upd (upd (upd (upd (upd (upd iv 21 (nI k21_164)) 22 p22_165) 25 (nI a_4)) 29 (nI k29_171)) 30 (nI k30_172)) 31 (nI q_9)) (uF (uF fv 19 f19_173) 28 f28_11) gv) := hD1.weaken (fun _ _ _ h => hFc _ h)
    have hjl : plS f28_11 (jO sg_16) := q_184
    have hjn : k29_171 = (jO sg_16).length := q_185
    have hfr_186 : ∀ i : Nat, i < 200 * n14 → f19_173 i = fv 19 i := fun i h9 => (q_181 i h9).trans (hfr_28 i h9)
    have hlen2 := q_176.len
    have hP : va_P D vwCl (mw h0 ad cs (upd (upd (upd (upd (upd (upd iv 21 (nI k21_164)) 22 p22_165) 25 (nI a_4)) 29 (nI k29_171)) 30 (nI k30_172)) 31 (nI q_9)) (uF (uF fv 19 f19_173) 28 f28_11) gv) H := hP
    have hD : va_D A (mw h0 ad cs (upd (upd (upd (upd (upd (upd iv 21 (nI k21_164)) 22 p22_165) 25 (nI a_4)) 29 (nI k29_171)) 30 (nI k30_172)) 31 (nI q_9)) (uF (uF fv 19 f19_173) 28 f28_11) gv) := hD
    exact W.vret hx hb hr (fun t ht hW => ⟨⟨(), rfl, trivial, k21_164, p22_165, a_4, k29_171, k30_172, q_9, f19_173, f28_11, by omega, by omega, by omega, hfr_186, Or.inl (by omega), (by exfalso; omega), fun h9 => absurd h9 (by omega), by rw [ht]; exact hP, va_K.moved hW.alike hK, hD⟩, hS.F ht⟩) hS.2.2 dX9_either_233
  have d_187 := n_eq (a := fk_5) (b := 0) (by omega) (by omega) c_112
  obtain rfl : fk_5 = 0 := by omega
  have hw_188 := hw_27.resolve_left (by omega)
  have hr9 := hrc_32 rfl (by omega)
  refine lv_aload_n hx hb dX9_either_30 rfl (lv_at hl 2 rfl) ?_
  have hFc := free_all hD hS hA
  refine va_calli (va_runV (As := []) (rest := []) ⟨hx, hb, hml, hown, hts⟩ (m_here l D h0 ad cs (upd (upd (upd (upd (upd (upd iv 21 (nI (0))) 22 p22_6) 25 (nI a_4)) 29 (nI p_7)) 30 (nI d_8)) 31 (nI q_9)) (uF (uF fv 19 f19_10) 28 f28_11) gv a_4 n26  H.size rfl h26 (by omega) (by omega)) (cwV 0 hts gX9_either_X9_here rfl rfl rfl (by decide +kernel) ⟨Nat.le_of_ble_eq_true rfl, Nat.le_of_ble_eq_true rfl⟩) ⟨fun a U g mk q => by obtain ⟨q0, q1, qP, qK, qD⟩ := q; exact ⟨q0, q1, qP, va_K.moved (u := U) (U := U.calling g mk a) (Vm.Alike.refl U.vm) qK, qD⟩, va_recv hK hP (ci := 9) (q0 := 0) rfl rfl, fun U hU hW => ⟨rfl, by rw [hU], by rw [hU]; exact hP, va_K.moved hW.alike hK, hD.weaken (fun _ _ _ _ => trivial)⟩⟩ rfl rfl hl.1 rfl (lv_room (Nat.le_of_ble_eq_true rfl)) dX9_either_31 ⟨Nat.le_of_ble_eq_true rfl, Nat.le_of_ble_eq_true rfl⟩) hS (fun q _ h => hFc q h) hFc (fun r_189 u t H1 locs ht hvm w_190 hB hz1 hk1 hS => ?_)
  subst w_190
  obtain ⟨k25_191, q_192, q_193, q_194, q_195, q_196, q_197, hP1, hK1, hD1⟩ := hB
  replace q_194 : k25_191 = n26 ∨ ¬ blk ((fv 0) k25_191) := q_194
  replace q_195 : (a_4 = n26 ∨ ¬ blk ((fv 0) a_4)) → k25_191 = a_4 := q_195
  replace q_196 : (r_189 = (-1) ∧ k25_191 = n26) ∨ (k25_191 < n26 ∧ r_189 = (fv 0) k25_191) := q_196
  replace q_197 : isRn blk ((fv 0)) n26 a_4 k25_191 := q_197
  rw [ht] at hP1
  have hK := va_K.moved hvm.symm hK1
  generalize H1 = H at hP1 hS ⊢
  have hP : va_P D vwCl (mw h0 ad cs (upd (upd (upd (upd (upd (upd iv 21 (nI (0))) 22 p22_6) 25 (nI k25_191)) 29 (nI p_7)) 30 (nI d_8)) 31 (nI q_9)) (uF (uF fv 19 f19_10) 28 f28_11) gv) H := hP1
  have hD : va_D A (mw h0 ad cs (upd (upd (upd (upd (upd (upd iv 21 (nI (0))) 22 p22_6) 25 (nI k25_191)) 29 (nI p_7)) 30 (nI d_8)) 31 (nI q_9)) (uF (uF fv 19 f19_10) 28 f28_11) gv) := hD1.weaken (fun _ _ _ h => hFc _ h)
  refine lv_istore_n (lv' := [(3, .int r_189), (1, .int (nI du_2)), (2, .int (nI mo_3)), (0, .ref h0)]) hx hb dX9_either_34 rfl hl (by decide) rfl (fun ls hl => ?_)
  refine lv_aload_n hx hb dX9_either_35 rfl (lv_at hl 3 rfl) ?_
  have hFc := free_all hD hS hA
  refine va_calli (va_runV (As := []) (rest := []) ⟨hx, hb, hml, hown, hts⟩ (m_peek l D h0 ad cs (upd (upd (upd (upd (upd (upd iv 21 (nI (0))) 22 p22_6) 25 (nI k25_191)) 29 (nI p_7)) 30 (nI d_8)) 31 (nI q_9)) (uF (uF fv 19 f19_10) 28 f28_11) gv k25_191 n26  H.size rfl h26 (by omega) (by omega)) (cwV 0 hts gX9_either_X9_peek rfl rfl rfl (by decide +kernel) ⟨Nat.le_of_ble_eq_true rfl, Nat.le_of_ble_eq_true rfl⟩) ⟨fun a U g mk q => by obtain ⟨q0, q1, qP, qK, qD⟩ := q; exact ⟨q0, q1, qP, va_K.moved (u := U) (U := U.calling g mk a) (Vm.Alike.refl U.vm) qK, qD⟩, va_recv hK hP (ci := 9) (q0 := 0) rfl rfl, fun U hU hW => ⟨rfl, by rw [hU], by rw [hU]; exact hP, va_K.moved hW.alike hK, hD.weaken (fun _ _ _ _ => trivial)⟩⟩ rfl rfl hl.1 rfl (lv_room (Nat.le_of_ble_eq_true rfl)) dX9_either_36 ⟨Nat.le_of_ble_eq_true rfl, Nat.le_of_ble_eq_true rfl⟩) hS (fun q _ h => hFc q h) hFc (fun r_198 u t H1 locs ht hvm w_199 hB hz1 hk1 hS => ?_)
  subst w_199
  obtain ⟨k25_200, q_201, q_202, q_203, q_204, q_205, hP1, hK1, hD1⟩ := hB
  replace q_203 : (k25_191 = n26 ∨ ¬ blk ((fv 0) k25_191)) → k25_200 = k25_191 := q_203
  replace q_204 : PKD ((fv 0)) n26 k25_200 r_198 := q_204
  replace q_205 : isRn blk ((fv 0)) n26 k25_191 k25_200 := q_205
  rw [ht] at hP1
  have hK := va_K.moved hvm.symm hK1
  generalize H1 = H at hP1 hS ⊢
  have hP : va_P D vwCl (mw h0 ad cs (upd (upd (upd (upd (upd (upd iv 21 (nI (0))) 22 p22_6) 25 (nI k25_200)) 29 (nI p_7)) 30 (nI d_8)) 31 (nI q_9)) (uF (uF fv 19 f19_10) 28 f28_11) gv) H := hP1
  have hD : va_D A (mw h0 ad cs (upd (upd (upd (upd (upd (upd iv 21 (nI (0))) 22 p22_6) 25 (nI k25_200)) 29 (nI p_7)) 30 (nI d_8)) 31 (nI q_9)) (uF (uF fv 19 f19_10) 28 f28_11) gv) := hD1.weaken (fun _ _ _ h => hFc _ h)
  have hid_210 : k25_200 = k25_191 := q_203 q_194
  have hr8 : Rch (fv 0) n26 (0, skB (fv 0) n26 n25, [], []) (1 - du_2, k25_200, sg_16, Tm_17) := by rw [hid_210, ← q_197.eq]; exact hr9
  have hskb : skB (fv 0) n26 k25_200 = k25_200 := pcB.sk ⟨by omega, by rw [hid_210]; exact q_194⟩
  have hr0 : (r_189 = (-1) ∧ k25_200 = n26) ∨ (k25_200 < n26 ∧ r_189 = fv 0 k25_200) := by rw [hid_210]; exact q_196
  rcases q_204 with ⟨rfl, hw_211⟩ | ⟨c_206, e_207, rfl, he_208, hc_209, hw_211⟩
  · refine lv_istore (lv' := [(4, .int (-1)), (3, .int r_189), (1, .int (nI du_2)), (2, .int (nI mo_3)), (0, .ref h0)]) hx hb dX9_either_39 hl (by decide) rfl (fun ls hl => ?_)
    refine lv_iload_n hx hb dX9_either_41 rfl (lv_at hl 2 rfl) ?_
    refine lv_if_eq (tgt := 76) hx hb dX9_either_42 (by decide) (fun c_212 => ?_) (fun c_212 => ?_)
    · have d_213 := n_eq (a := du_2) (b := 0) (by omega) (by omega) c_212
      obtain rfl : du_2 = 0 := by omega
      have hr7 : Rch (fv 0) n26 (0, skB (fv 0) n26 n25, [], []) (1, k25_200, sg_16, Tm_17) := hr8
      refine lv_iload_n hx hb dX9_either_76 rfl (lv_at hl 2 rfl) ?_
      refine lv_if_eq (tgt := 93) hx hb dX9_either_77 (by decide) (fun c_214 => ?_) (fun c_214 => absurd (by decide) c_214)
      refine lv_iload hx hb dX9_either_93 (lv_at hl 0 rfl) ?_
      refine lv_iconst (v := 2) hx hb dX9_either_95 (by decide) ?_
      refine lv_icmp_eq (tgt := 105) hx hb dX9_either_96 (by decide) (fun c_215 => absurd c_215 (by decide)) (fun c_215 => ?_)
      refine lv_iload hx hb dX9_either_99 (lv_at hl 0 rfl) ?_
      refine lv_iconst (v := 1) hx hb dX9_either_101 (by decide) ?_
      refine lv_icmp_ne (tgt := 145) hx hb dX9_either_102 (by decide) (fun c_216 => ?_) (fun c_216 => absurd c_216 (by decide))
      refine lv_iload_n hx hb dX9_either_145 rfl (lv_at hl 1 rfl) ?_
      refine lv_bipush (v := 41) hx hb dX9_either_146 (by decide) ?_
      refine lv_icmp_ne (tgt := 200) hx hb dX9_either_148 (by decide) (fun c_217 => ?_) (fun c_217 => ?_)
      · refine lv_iconst (v := 0) hx hb dX9_either_200 (by decide) ?_
        refine lv_istore_n (lv' := [(2, .int 0), (4, .int (-1)), (3, .int r_189), (1, .int (nI (0))), (0, .ref h0)]) hx hb dX9_either_201 rfl hl (by decide) rfl (fun ls hl => ?_)
        refine lv_goto (tgt := 19) hx hb dX9_either_202 (by decide) ?_
        exact ih_1 (0, 0, k25_200, 0, p22_6, p_7, d_8, q_9, f19_10, f28_11, x_12, y_13, j_14, k_15, sg_16, Tm_17) (mw h0 ad cs (upd (upd (upd (upd (upd (upd iv 21 (nI 0)) 22 p22_6) 25 (nI k25_200)) 29 (nI p_7)) 30 (nI d_8)) 31 (nI q_9)) (uF (uF fv 19 f19_10) 28 f28_11) gv) _ _ ls (by show 2 * (n26 - k25_200) + 0 + (1 - 0) < 2 * (n26 - a_4) + mo_3 + (1 - (0)); omega) ⟨rfl, (show 0 ≤ 1 from by omega), (show 0 ≤ 1 from by omega), (show 1 ≤ 0 ∨ 0 = 0 from by omega), (show k25_200 ≤ n26 from by omega), (show 2 * (d_8 + j_14 + x_12) ≤ k25_200 from by omega), (show 0 ≤ 3 from by omega), (show pil f28_11 p_7 x_12 y_13 j_14 k_15 from hp_24), (show q_9 = x_12 + y_13 from by omega), (show x_12 + y_13 ≤ 6 from by omega), (show 1 ≤ 0 ∨ wfs f19_10 (200 * n14) d_8 (j_14 + (1 - 0)) from Or.inr hw_188), (show ∀ i : Nat, i < 200 * n14 → f19_10 i = fv 19 i from hfr_28), (show plS f28_11 sg_16 from hpl_29), (show p_7 = sg_16.length from hpn_30), (show q_9 = dep sg_16 from by omega), (show 0 = 0 → 0 = 1 → Rch (fv 0) n26 (0, skB (fv 0) n26 n25, [], []) (1 - 0, skB (fv 0) n26 k25_200, sg_16, Tm_17) from fun _ h9 => absurd h9 (by omega)), (show ¬ 0 = 0 → rcF (fv 0) n26 (0, skB (fv 0) n26 n25, [], []) 0 p22_6 from fun h9 => absurd rfl h9), (show 0 = 0 → 0 = 0 → eiE (fv 0) n26 (0, skB (fv 0) n26 n25, [], []) sg_16 Tm_17 k25_200 from (fun _ _ => ⟨hr7, by omega, (fun h9 => hr0.elim (fun z9 => by omega) (fun z9 => c_217 (z9.2.trans h9.1.2))), hskb⟩)), (show 0 = 0 → p22_6 = iv 22 from fun _ => hp0_35 rfl)⟩ hP hD hS (lv_sub hl [3, 0, 4] rfl)
      have hlt41 : k25_191 < n26 := q_196.elim (fun h9 => absurd (h9.1.symm.trans c_217) (by decide)) (fun h9 => h9.1)
      refine lv_aload_n hx hb dX9_either_151 rfl (lv_at hl 4 rfl) ?_
      refine vp_callSi (W.runV (As := []) (rest := []) ⟨hx, hb, hml, hown, hts⟩ (m_brackets l D h0 ad cs (upd (upd (upd (upd (upd (upd iv 21 (nI (0))) 22 p22_6) 25 (nI k25_200)) 29 (nI p_7)) 30 (nI d_8)) 31 (nI q_9)) (uF (uF fv 19 f19_10) 28 f28_11) gv p_7 sg_16 rfl (by omega) hpl_29 hpn_30) (cwV 0 hts gX9_either_X9_brackets rfl rfl rfl (by decide +kernel) ⟨Nat.le_of_ble_eq_true rfl, Nat.le_of_ble_eq_true rfl⟩) ⟨fun a U g mk q => ⟨q.1, q.2.1, va_K.moved (u := U) (U := U.calling g mk a) (Vm.Alike.refl U.vm) q.2.2⟩, va_recv hK hP (ci := 9) (q0 := 0) rfl rfl, fun U hU hW => ⟨rfl, by rw [hU]; exact hP, va_K.moved hW.alike hK⟩⟩ rfl rfl hl.1 rfl (lv_room (Nat.le_of_ble_eq_true rfl)) dX9_either_152 ⟨Nat.le_of_ble_eq_true rfl, Nat.le_of_ble_eq_true rfl⟩) (fun r_218 k_219 => ?_)
      obtain ⟨b_220, rfl, hb_221, hb_222, hb_223⟩ := k_219
      refine lv_if_le (tgt := 200) hx hb dX9_either_155 (by decide) (fun c_224 => ?_) (fun c_224 => ?_)
      · have d_225 := n_le (a := b_220) (b := 0) (by omega) (by omega) c_224
        refine lv_iconst (v := 0) hx hb dX9_either_200 (by decide) ?_
        refine lv_istore_n (lv' := [(2, .int 0), (4, .int (-1)), (3, .int r_189), (1, .int (nI (0))), (0, .ref h0)]) hx hb dX9_either_201 rfl hl (by decide) rfl (fun ls hl => ?_)
        refine lv_goto (tgt := 19) hx hb dX9_either_202 (by decide) ?_
        exact ih_1 (0, 0, k25_200, 0, p22_6, p_7, d_8, q_9, f19_10, f28_11, x_12, y_13, j_14, k_15, sg_16, Tm_17) (mw h0 ad cs (upd (upd (upd (upd (upd (upd iv 21 (nI 0)) 22 p22_6) 25 (nI k25_200)) 29 (nI p_7)) 30 (nI d_8)) 31 (nI q_9)) (uF (uF fv 19 f19_10) 28 f28_11) gv) _ _ ls (by show 2 * (n26 - k25_200) + 0 + (1 - 0) < 2 * (n26 - a_4) + mo_3 + (1 - (0)); omega) ⟨rfl, (show 0 ≤ 1 from by omega), (show 0 ≤ 1 from by omega), (show 1 ≤ 0 ∨ 0 = 0 from by omega), (show k25_200 ≤ n26 from by omega), (show 2 * (d_8 + j_14 + x_12) ≤ k25_200 from by omega), (show 0 ≤ 3 from by omega), (show pil f28_11 p_7 x_12 y_13 j_14 k_15 from hp_24), (show q_9 = x_12 + y_13 from by omega), (show x_12 + y_13 ≤ 6 from by omega), (show 1 ≤ 0 ∨ wfs f19_10 (200 * n14) d_8 (j_14 + (1 - 0)) from Or.inr hw_188), (show ∀ i : Nat, i < 200 * n14 → f19_10 i = fv 19 i from hfr_28), (show plS f28_11 sg_16 from hpl_29), (show p_7 = sg_16.length from hpn_30), (show q_9 = dep sg_16 from by omega), (show 0 = 0 → 0 = 1 → Rch (fv 0) n26 (0, skB (fv 0) n26 n25, [], []) (1 - 0, skB (fv 0) n26 k25_200, sg_16, Tm_17) from fun _ h9 => absurd h9 (by omega)), (show ¬ 0 = 0 → rcF (fv 0) n26 (0, skB (fv 0) n26 n25, [], []) 0 p22_6 from fun h9 => absurd rfl h9), (show 0 = 0 → 0 = 0 → eiE (fv 0) n26 (0, skB (fv 0) n26 n25, [], []) sg_16 Tm_17 k25_200 from (fun _ _ => ⟨hr7, by omega, (fun h9 => absurd h9.2 (by omega)), hskb⟩)), (show 0 = 0 → p22_6 = iv 22 from fun _ => hp0_35 rfl)⟩ hP hD hS (lv_sub hl [3, 0, 4] rfl)
      have d_226 := n_nle (a := b_220) (b := 0) (by omega) (by omega) c_224
      obtain ⟨i9, hi9, hi8⟩ := hb_222.resolve_left (by omega)
      have hbk : 0 < brk sg_16 := by omega
      have hb41 : k25_200 < n26 ∧ fv 0 k25_200 = 41 := hr0.elim (fun h9 => absurd (h9.1.symm.trans c_217) (by decide)) (fun h9 => ⟨h9.1, h9.2.symm.trans c_217⟩)
      refine lv_aload_n hx hb dX9_either_158 rfl (lv_at hl 4 rfl) ?_
      refine lv_iconst (v := 1) hx hb dX9_either_159 (by decide) ?_
      have hFc := free_all hD hS hA
      refine va_callv (va_runV (As := [.int 1]) (rest := []) ⟨hx, hb, hml, hown, hts⟩ (m_joins l D h0 ad cs (upd (upd (upd (upd (upd (upd iv 21 (nI (0))) 22 p22_6) 25 (nI k25_200)) 29 (nI p_7)) 30 (nI d_8)) 31 (nI q_9)) (uF (uF fv 19 f19_10) 28 f28_11) gv n14 p_7 d_8 1 x_12 y_13 j_14 k_15 sg_16 H.size h14 rfl rfl (by omega) (by omega) hp_24 (by omega) (by omega) hpl_29 hpn_30) (cwV 1 hts gX9_either_X9_joins rfl rfl rfl (by decide +kernel) ⟨Nat.le_of_ble_eq_true rfl, Nat.le_of_ble_eq_true rfl⟩) ⟨fun a U g mk q => by obtain ⟨q0, q1, qP, qK, qD⟩ := q; exact ⟨q0, q1, qP, va_K.moved (u := U) (U := U.calling g mk a) (Vm.Alike.refl U.vm) qK, qD⟩, va_recv hK hP (ci := 9) (q0 := 0) rfl rfl, fun U hU hW => ⟨rfl, by rw [hU], by rw [hU]; exact hP, va_K.moved hW.alike hK, hD.weaken (fun _ _ _ _ => trivial)⟩⟩ rfl rfl hl.1 rfl (lv_room (Nat.le_of_ble_eq_true rfl)) dX9_either_160 ⟨Nat.le_of_ble_eq_true rfl, Nat.le_of_ble_eq_true rfl⟩) hS (fun q _ h => hFc q h) hFc (fun u t H1 locs ht hvm w_228 hB hz1 hk1 hS => ?_)
      obtain ⟨k29_229, k30_230, f19_231, gj2_232, gk2_233, q_234, q_235, q_236, q_237, q_238, q_239, q_240, q_241, q_242, q_243, hP1, hK1, hD1⟩ := hB
      replace q_234 : pil ((f28_11)) k29_229 x_12 y_13 gj2_232 gk2_233 := q_234
      replace q_238 : ∀ i : Nat, k29_229 ≤ i → i < p_7 → (f28_11) i = 1 ∨ (f28_11) i = 2 := q_238
      replace q_239 : ∀ i : Nat, i < 200 * n14 → f19_231 i = (f19_10) i := q_239
      replace q_240 : wfs ((f19_10)) (200 * n14) d_8 (j_14 + 1) → wfs f19_231 (200 * n14) k30_230 (gj2_232 + 1) := q_240
      replace q_242 : plS ((f28_11)) (jW 1 sg_16) := q_242
      rw [ht] at hP1
      have hK := va_K.moved hvm.symm hK1
      generalize H1 = H at hP1 hS ⊢
      have hP : va_P D vwCl (mw h0 ad cs (upd (upd (upd (upd (upd (upd iv 21 (nI (0))) 22 p22_6) 25 (nI k25_200)) 29 (nI k29_229)) 30 (nI k30_230)) 31 (nI q_9)) (uF (uF fv 19 f19_231) 28 f28_11) gv) H := hP1
      have hD : va_D A (mw h0 ad cs (upd (upd (upd (upd (upd (upd iv 21 (nI (0))) 22 p22_6) 25 (nI k25_200)) 29 (nI k29_229)) 30 (nI k30_230)) 31 (nI q_9)) (uF (uF fv 19 f19_231) 28 f28_11) gv) := hD1.weaken (fun _ _ _ h => hFc _ h)
      have hjl : plS f28_11 (jO sg_16) := q_242
      have hjn : k29_229 = (jO sg_16).length := q_243
      have hfr_244 : ∀ i : Nat, i < 200 * n14 → f19_231 i = fv 19 i := fun i h9 => (q_239 i h9).trans (hfr_28 i h9)
      have hw_245 := q_240 hw_188
      have hlen2 := q_234.len
      have hk1 : 1 ≤ k29_229 := (Nat.lt_or_ge i9 k29_229).elim (fun q => by omega) (fun q => absurd hi8 (nj12 (q_238 i9 q hi9)))
      obtain rfl : gk2_233 = 0 := by omega
      obtain ⟨hb_246, x_247, y_248, k_249, hxy_250, hx_251, hp_252⟩ := q_234.popB hk1
      obtain ⟨sq, eq9, lq, plq, dq⟩ := pl_cl hjl hjn hbk
      have hrq : Rch (fv 0) n26 (0, skB (fv 0) n26 n25, [], []) (1, nxF (fv 0) n26 k25_200, pN sq, (Tm_17 ++ eO sg_16) ++ eN sq) := by have h9 := hr7.st (st_close hb41 hbk); rw [eq9] at h9; exact h9
      refine lv_aload_n hx hb dX9_either_163 rfl (lv_at hl 4 rfl) ?_
      refine lv_dup hx hb dX9_either_164 rfl ?_
      refine va_get (D := D) (ci := 9) (v := .int (nI k29_229)) (C := RX9) (T := TX9) (N := 44) hx hb hts hin9 hown hK hP 0 rfl rfl 29 (by decide) (hts (.fieldLink RX9 99 "HoneyHouseModel" "piled" "I") (List.mem_of_getElem? (i := 1) rfl)) (fun _ h9 => h9) rfl dX9_either_165 ?_
      refine lv_iconst (v := 1) hx hb dX9_either_168 (by decide) ?_
      refine lv_isub hx hb dX9_either_169 ?_
      refine tp_i (y := nI (k29_229 - 1)) (pk_sub (a := k29_229) (b := 1) (by omega)) ?_
      refine va_put (D := D) (ci := 9) (v := .int (nI (k29_229 - 1))) (ty := .int) (C := RX9) (T := TX9) (N := 44) hx hb hts hin9 tyX9 tyX9_ok nmX9 hown hK hP hD hS 0 rfl rfl 29 (by decide) (hts (.fieldLink RX9 99 "HoneyHouseModel" "piled" "I") (List.mem_of_getElem? (i := 1) rfl)) (fun _ h9 => h9) rfl (tyX9_ok 29 (by decide)) rfl rfl (Nat.le_of_ble_eq_true rfl) dX9_either_170 (fun H locs hP hD hS => ?_)
      have hP : va_P D vwCl (mw h0 ad cs (upd (upd (upd (upd (upd (upd iv 21 (nI (0))) 22 p22_6) 25 (nI k25_200)) 29 (nI (k29_229 - 1))) 30 (nI k30_230)) 31 (nI q_9)) (uF (uF fv 19 f19_231) 28 f28_11) gv) H := hP
      have hD : va_D A (mw h0 ad cs (upd (upd (upd (upd (upd (upd iv 21 (nI (0))) 22 p22_6) 25 (nI k25_200)) 29 (nI (k29_229 - 1))) 30 (nI k30_230)) 31 (nI q_9)) (uF (uF fv 19 f19_231) 28 f28_11) gv) := hD
      refine lv_aload_n hx hb dX9_either_173 rfl (lv_at hl 4 rfl) ?_
      refine lv_dup hx hb dX9_either_174 rfl ?_
      refine va_get (D := D) (ci := 9) (v := .int (nI q_9)) (C := RX9) (T := TX9) (N := 44) hx hb hts hin9 hown hK hP 0 rfl rfl 31 (by decide) (hts (.fieldLink RX9 105 "HoneyHouseModel" "deep" "I") (List.mem_of_getElem? (i := 3) rfl)) (fun _ h9 => h9) rfl dX9_either_175 ?_
      refine lv_iconst (v := 1) hx hb dX9_either_178 (by decide) ?_
      refine lv_isub hx hb dX9_either_179 ?_
      refine tp_i (y := nI (q_9 - 1)) (pk_sub (a := q_9) (b := 1) (by omega)) ?_
      refine va_put (D := D) (ci := 9) (v := .int (nI (q_9 - 1))) (ty := .int) (C := RX9) (T := TX9) (N := 44) hx hb hts hin9 tyX9 tyX9_ok nmX9 hown hK hP hD hS 0 rfl rfl 31 (by decide) (hts (.fieldLink RX9 105 "HoneyHouseModel" "deep" "I") (List.mem_of_getElem? (i := 3) rfl)) (fun _ h9 => h9) rfl (tyX9_ok 31 (by decide)) rfl rfl (Nat.le_of_ble_eq_true rfl) dX9_either_180 (fun H locs hP hD hS => ?_)
      have hP : va_P D vwCl (mw h0 ad cs (upd (upd (upd (upd (upd (upd iv 21 (nI (0))) 22 p22_6) 25 (nI k25_200)) 29 (nI (k29_229 - 1))) 30 (nI k30_230)) 31 (nI (q_9 - 1))) (uF (uF fv 19 f19_231) 28 f28_11) gv) H := hP
      have hD : va_D A (mw h0 ad cs (upd (upd (upd (upd (upd (upd iv 21 (nI (0))) 22 p22_6) 25 (nI k25_200)) 29 (nI (k29_229 - 1))) 30 (nI k30_230)) 31 (nI (q_9 - 1))) (uF (uF fv 19 f19_231) 28 f28_11) gv) := hD
      refine lv_aload_n hx hb dX9_either_183 rfl (lv_at hl 4 rfl) ?_
      refine lv_dup hx hb dX9_either_184 rfl ?_
      refine va_get (D := D) (ci := 9) (v := .int (nI k25_200)) (C := RX9) (T := TX9) (N := 44) hx hb hts hin9 hown hK hP 0 rfl rfl 25 (by decide) (hts (.fieldLink RX9 87 "HoneyHouseModel" "at" "I") (List.mem_of_getElem? (i := 6) rfl)) (fun _ h9 => h9) rfl dX9_either_185 ?_
      refine lv_iconst (v := 1) hx hb dX9_either_188 (by decide) ?_
      refine lv_iadd hx hb dX9_either_189 ?_
      refine tp_i (y := nI (k25_200 + 1)) (nI_add k25_200 1) ?_
      refine va_put (D := D) (ci := 9) (v := .int (nI (k25_200 + 1))) (ty := .int) (C := RX9) (T := TX9) (N := 44) hx hb hts hin9 tyX9 tyX9_ok nmX9 hown hK hP hD hS 0 rfl rfl 25 (by decide) (hts (.fieldLink RX9 87 "HoneyHouseModel" "at" "I") (List.mem_of_getElem? (i := 6) rfl)) (fun _ h9 => h9) rfl (tyX9_ok 25 (by decide)) rfl rfl (Nat.le_of_ble_eq_true rfl) dX9_either_190 (fun H locs hP hD hS => ?_)
      have hP : va_P D vwCl (mw h0 ad cs (upd (upd (upd (upd (upd (upd iv 21 (nI (0))) 22 p22_6) 25 (nI (k25_200 + 1))) 29 (nI (k29_229 - 1))) 30 (nI k30_230)) 31 (nI (q_9 - 1))) (uF (uF fv 19 f19_231) 28 f28_11) gv) H := hP
      have hD : va_D A (mw h0 ad cs (upd (upd (upd (upd (upd (upd iv 21 (nI (0))) 22 p22_6) 25 (nI (k25_200 + 1))) 29 (nI (k29_229 - 1))) 30 (nI k30_230)) 31 (nI (q_9 - 1))) (uF (uF fv 19 f19_231) 28 f28_11) gv) := hD
      refine lv_aload_n hx hb dX9_either_193 rfl (lv_at hl 4 rfl) ?_
      have hFc := free_all hD hS hA
      refine va_callv (va_runV (As := []) (rest := []) ⟨hx, hb, hml, hown, hts⟩ (m_nots l D h0 ad cs (upd (upd (upd (upd (upd (upd iv 21 (nI (0))) 22 p22_6) 25 (nI (k25_200 + 1))) 29 (nI (k29_229 - 1))) 30 (nI k30_230)) 31 (nI (q_9 - 1))) (uF (uF fv 19 f19_231) 28 f28_11) gv n14 (k29_229 - 1) k30_230 (q_9 - 1) x_247 y_248 gj2_232 k_249 sq H.size h14 rfl rfl rfl (by omega) hp_252 (by omega) (by omega) (by omega) plq (by omega)) (cwV 0 hts gX9_either_X9_nots rfl rfl rfl (by decide +kernel) ⟨Nat.le_of_ble_eq_true rfl, Nat.le_of_ble_eq_true rfl⟩) ⟨fun a U g mk q => by obtain ⟨q0, q1, qP, qK, qD⟩ := q; exact ⟨q0, q1, qP, va_K.moved (u := U) (U := U.calling g mk a) (Vm.Alike.refl U.vm) qK, qD⟩, va_recv hK hP (ci := 9) (q0 := 0) rfl rfl, fun U hU hW => ⟨rfl, by rw [hU], by rw [hU]; exact hP, va_K.moved hW.alike hK, hD.weaken (fun _ _ _ _ => trivial)⟩⟩ rfl rfl hl.1 rfl (lv_room (Nat.le_of_ble_eq_true rfl)) dX9_either_194 ⟨Nat.le_of_ble_eq_true rfl, Nat.le_of_ble_eq_true rfl⟩) hS (fun q _ h => hFc q h) hFc (fun u t H1 locs ht hvm w_254 hB hz1 hk1 hS => ?_)
      obtain ⟨k29_255, k30_256, k31_257, f19_258, gx2_259, gk2_260, q_261, q_262, q_263, q_264, q_265, q_266, q_267, q_268, q_269, hP1, hK1, hD1⟩ := hB
      replace q_261 : pil ((f28_11)) k29_255 gx2_259 y_248 gj2_232 gk2_260 := q_261
      replace q_265 : ∀ i : Nat, i < 200 * n14 → f19_258 i = (f19_231) i := q_265
      replace q_266 : ∀ n : Nat, 1 ≤ n → wfs ((f19_231)) (200 * n14) k30_230 n → wfs f19_258 (200 * n14) k30_256 n := q_266
      replace q_267 : plS ((f28_11)) (pN sq) := q_267
      rw [ht] at hP1
      have hK := va_K.moved hvm.symm hK1
      generalize H1 = H at hP1 hS ⊢
      have hP : va_P D vwCl (mw h0 ad cs (upd (upd (upd (upd (upd (upd iv 21 (nI (0))) 22 p22_6) 25 (nI (k25_200 + 1))) 29 (nI k29_255)) 30 (nI k30_256)) 31 (nI k31_257)) (uF (uF fv 19 f19_258) 28 f28_11) gv) H := hP1
      have hD : va_D A (mw h0 ad cs (upd (upd (upd (upd (upd (upd iv 21 (nI (0))) 22 p22_6) 25 (nI (k25_200 + 1))) 29 (nI k29_255)) 30 (nI k30_256)) 31 (nI k31_257)) (uF (uF fv 19 f19_258) 28 f28_11) gv) := hD1.weaken (fun _ _ _ h => hFc _ h)
      have hfr_270 : ∀ i : Nat, i < 200 * n14 → f19_258 i = fv 19 i := fun i h9 => (q_265 i h9).trans (hfr_244 i h9)
      refine lv_goto (tgt := 202) hx hb dX9_either_197 (by decide) ?_
      refine lv_goto (tgt := 19) hx hb dX9_either_202 (by decide) ?_
      exact ih_1 (0, mo_3, k25_200 + 1, 0, p22_6, k29_255, k30_256, k31_257, f19_258, f28_11, gx2_259, y_248, gj2_232, gk2_260, pN sq, (Tm_17 ++ eO sg_16) ++ eN sq) (mw h0 ad cs (upd (upd (upd (upd (upd (upd iv 21 (nI 0)) 22 p22_6) 25 (nI (k25_200 + 1))) 29 (nI k29_255)) 30 (nI k30_256)) 31 (nI k31_257)) (uF (uF fv 19 f19_258) 28 f28_11) gv) _ _ ls (by show 2 * (n26 - (k25_200 + 1)) + mo_3 + (1 - 0) < 2 * (n26 - a_4) + mo_3 + (1 - (0)); omega) ⟨rfl, (show 0 ≤ 1 from by omega), (show mo_3 ≤ 1 from by omega), (show 1 ≤ mo_3 ∨ 0 = 0 from by omega), (show (k25_200 + 1) ≤ n26 from by omega), (show 2 * (k30_256 + gj2_232 + gx2_259) ≤ (k25_200 + 1) from by omega), (show 0 ≤ 3 from by omega), (show pil f28_11 k29_255 gx2_259 y_248 gj2_232 gk2_260 from q_261), (show k31_257 = gx2_259 + y_248 from by omega), (show gx2_259 + y_248 ≤ 6 from by omega), (show 1 ≤ 0 ∨ wfs f19_258 (200 * n14) k30_256 (gj2_232 + (1 - 0)) from Or.inr (q_266 _ (by omega) hw_245)), (show ∀ i : Nat, i < 200 * n14 → f19_258 i = fv 19 i from hfr_270), (show plS f28_11 (pN sq) from q_267), (show k29_255 = (pN sq).length from q_268), (show k31_257 = dep (pN sq) from by omega), (show 0 = 0 → mo_3 = 1 → Rch (fv 0) n26 (0, skB (fv 0) n26 n25, [], []) (1 - 0, skB (fv 0) n26 (k25_200 + 1), (pN sq), ((Tm_17 ++ eO sg_16) ++ eN sq)) from (fun _ _ => by rw [show skB (fv 0) n26 (k25_200 + 1) = nxF (fv 0) n26 k25_200 from nx_4 (wd_41 hb41).2 rfl]; exact hrq)), (show ¬ 0 = 0 → rcF (fv 0) n26 (0, skB (fv 0) n26 n25, [], []) 0 p22_6 from fun h9 => absurd rfl h9), (show mo_3 = 0 → 0 = 0 → eiE (fv 0) n26 (0, skB (fv 0) n26 n25, [], []) (pN sq) ((Tm_17 ++ eO sg_16) ++ eN sq) (k25_200 + 1) from fun h9 => by omega), (show 0 = 0 → p22_6 = iv 22 from fun _ => hp0_35 rfl)⟩ hP hD hS (lv_sub hl [2, 3, 4] rfl)
    have d_271 := n_ne (a := du_2) (b := 0) (by omega) (by omega) c_212
    obtain rfl : du_2 = 1 := by omega
    have hr7 : Rch (fv 0) n26 (0, skB (fv 0) n26 n25, [], []) (0, k25_200, sg_16, Tm_17) := hr8
    refine lv_iload_n hx hb dX9_either_45 rfl (lv_at hl 1 rfl) ?_
    refine lv_bipush (v := 40) hx hb dX9_either_46 (by decide) ?_
    refine lv_icmp_eq (tgt := 57) hx hb dX9_either_48 (by decide) (fun c_272 => ?_) (fun c_272 => ?_)
    · have hlt40 : k25_191 < n26 := q_196.elim (fun h9 => absurd (h9.1.symm.trans c_272) (by decide)) (fun h9 => h9.1)
      refine lv_aload_n hx hb dX9_either_57 rfl (lv_at hl 4 rfl) ?_
      refine lv_iload_n hx hb dX9_either_58 rfl (lv_at hl 1 rfl) ?_
      refine lv_bipush (v := 40) hx hb dX9_either_59 (by decide) ?_
      refine lv_icmp_ne (tgt := 69) hx hb dX9_either_61 (by decide) (fun c_273 => absurd (c_272) c_273) (fun c_273 => ?_)
      refine lv_bipush (v := 12) hx hb dX9_either_64 (by decide) ?_
      refine lv_goto (tgt := 70) hx hb dX9_either_66 (by decide) ?_
      have hFc := free_all hD hS hA
      refine va_callv (va_runV (As := [.int 12]) (rest := []) ⟨hx, hb, hml, hown, hts⟩ (m_opens l D h0 ad cs (upd (upd (upd (upd (upd (upd iv 21 (nI (0))) 22 p22_6) 25 (nI k25_200)) 29 (nI p_7)) 30 (nI d_8)) 31 (nI q_9)) (uF (uF fv 19 f19_10) 28 f28_11) gv 0 k25_200 n26 p_7 q_9 12 x_12 y_13 j_14 k_15 sg_16 H.size rfl rfl h26 rfl rfl (by omega) (by omega) (by omega) hp_24 (by omega) (by omega) (Or.inl ⟨rfl, by omega⟩) hpl_29 hpn_30) (cwV 1 hts gX9_either_X9_opens rfl rfl rfl (by decide +kernel) ⟨Nat.le_of_ble_eq_true rfl, Nat.le_of_ble_eq_true rfl⟩) ⟨fun a U g mk q => by obtain ⟨q0, q1, qP, qK, qD⟩ := q; exact ⟨q0, q1, qP, va_K.moved (u := U) (U := U.calling g mk a) (Vm.Alike.refl U.vm) qK, qD⟩, va_recv hK hP (ci := 9) (q0 := 0) rfl rfl, fun U hU hW => ⟨rfl, by rw [hU], by rw [hU]; exact hP, va_K.moved hW.alike hK, hD.weaken (fun _ _ _ _ => trivial)⟩⟩ rfl rfl hl.1 rfl (lv_room (Nat.le_of_ble_eq_true rfl)) dX9_either_70 ⟨Nat.le_of_ble_eq_true rfl, Nat.le_of_ble_eq_true rfl⟩) hS (fun q _ h => hFc q h) hFc (fun u t H1 locs ht hvm w_275 hB hz1 hk1 hS => ?_)
      obtain ⟨k21_276, p22_277, k25_278, k29_279, k31_280, f28_281, q_282, q_283, q_284, q_285, hP1, hK1, hD1⟩ := hB
      replace q_283 : (1 ≤ k21_276 ∧ k25_278 = k25_200 ∧ k29_279 = p_7 ∧ k31_280 = q_9 ∧ f28_281 = (f28_11)) ∨ (k21_276 = 0 ∧ k25_200 + 1 ≤ k25_278 ∧ k25_278 ≤ n26 ∧ k31_280 = q_9 + 1 ∧ q_9 ≤ 5 ∧ ∃ x y : Nat, x + y = x_12 + y_13 + 1 ∧ (x = x_12 ∨ (x = x_12 + 1 ∧ k25_200 + 3 ≤ k25_278)) ∧ pil f28_281 k29_279 x y j_14 0) := q_283
      replace q_285 : k21_276 = 0 → p22_277 = (p22_6) := q_285
      rw [ht] at hP1
      have hK := va_K.moved hvm.symm hK1
      generalize H1 = H at hP1 hS ⊢
      have hP : va_P D vwCl (mw h0 ad cs (upd (upd (upd (upd (upd (upd iv 21 (nI k21_276)) 22 p22_277) 25 (nI k25_278)) 29 (nI k29_279)) 30 (nI d_8)) 31 (nI k31_280)) (uF (uF fv 19 f19_10) 28 f28_281) gv) H := hP1
      have hD : va_D A (mw h0 ad cs (upd (upd (upd (upd (upd (upd iv 21 (nI k21_276)) 22 p22_277) 25 (nI k25_278)) 29 (nI k29_279)) 30 (nI d_8)) 31 (nI k31_280)) (uF (uF fv 19 f19_10) 28 f28_281) gv) := hD1.weaken (fun _ _ _ h => hFc _ h)
      have hb40 : k25_200 < n26 ∧ fv 0 k25_200 = 40 := hr0.elim (fun h9 => absurd (h9.1.symm.trans c_272) (by decide)) (fun h9 => ⟨h9.1, h9.2.symm.trans c_272⟩)
      rcases q_283 with ⟨hpos_286, e25_287, e29_288, e31_289, e28_290⟩ | ⟨rfl, h1_291, h2_292, h3_293, h5_294, x_295, y_296, hxy_297, hx3_298, hp_299⟩
      · obtain ⟨g_300, g_301, g_302⟩ := q_284.resolve_right (fun h9 => by omega)
        refine lv_goto (tgt := 202) hx hb dX9_either_73 (by decide) ?_
        refine lv_goto (tgt := 19) hx hb dX9_either_202 (by decide) ?_
        exact ih_1 (1, mo_3, k25_278, k21_276, p22_277, k29_279, d_8, k31_280, f19_10, f28_281, x_12, y_13, j_14, k_15, sg_16, Tm_17) (mw h0 ad cs (upd (upd (upd (upd (upd (upd iv 21 (nI k21_276)) 22 p22_277) 25 (nI k25_278)) 29 (nI k29_279)) 30 (nI d_8)) 31 (nI k31_280)) (uF (uF fv 19 f19_10) 28 f28_281) gv) _ _ ls (by show 2 * (n26 - k25_278) + mo_3 + (1 - k21_276) < 2 * (n26 - a_4) + mo_3 + (1 - (0)); omega) ⟨rfl, (show 1 ≤ 1 from by omega), (show mo_3 ≤ 1 from by omega), (show 1 ≤ mo_3 ∨ 1 = 0 from by omega), (show k25_278 ≤ n26 from by omega), (show 2 * (d_8 + j_14 + x_12) ≤ k25_278 from by omega), (show k21_276 ≤ 3 from by omega), (show pil f28_281 k29_279 x_12 y_13 j_14 k_15 from (by rw [e28_290, e29_288]; exact hp_24)), (show k31_280 = x_12 + y_13 from by omega), (show x_12 + y_13 ≤ 6 from by omega), (show 1 ≤ k21_276 ∨ wfs f19_10 (200 * n14) d_8 (j_14 + (1 - 1)) from Or.inl (by omega)), (show ∀ i : Nat, i < 200 * n14 → f19_10 i = fv 19 i from hfr_28), (show plS f28_281 sg_16 from (by rw [e28_290]; exact hpl_29)), (show k29_279 = sg_16.length from (by omega)), (show k31_280 = dep sg_16 from by omega), (show k21_276 = 0 → mo_3 = 1 → Rch (fv 0) n26 (0, skB (fv 0) n26 n25, [], []) (1 - 1, skB (fv 0) n26 k25_278, sg_16, Tm_17) from fun h9 _ => absurd h9 (by omega)), (show ¬ k21_276 = 0 → rcF (fv 0) n26 (0, skB (fv 0) n26 n25, [], []) k21_276 p22_277 from fun _ => ⟨k25_200, g_302, by rw [g_301]; exact hr7.st (st_deep (Or.inl hb40) (by omega))⟩), (show mo_3 = 0 → k21_276 = 0 → eiE (fv 0) n26 (0, skB (fv 0) n26 n25, [], []) sg_16 Tm_17 k25_278 from fun h9 => by omega), (show k21_276 = 0 → p22_277 = iv 22 from fun h9 => absurd h9 (by omega))⟩ hP hD hS (lv_sub hl [2, 3, 4] rfl)
      obtain ⟨g_303, -, g_304, g_305, g_306⟩ := q_284.resolve_left (fun h9 => by omega)
      refine lv_goto (tgt := 202) hx hb dX9_either_73 (by decide) ?_
      refine lv_goto (tgt := 19) hx hb dX9_either_202 (by decide) ?_
      exact ih_1 (1, mo_3, k25_278, 0, p22_277, k29_279, d_8, k31_280, f19_10, f28_281, x_295, y_296, j_14, 0, 12 :: sg_16, Tm_17) (mw h0 ad cs (upd (upd (upd (upd (upd (upd iv 21 (nI 0)) 22 p22_277) 25 (nI k25_278)) 29 (nI k29_279)) 30 (nI d_8)) 31 (nI k31_280)) (uF (uF fv 19 f19_10) 28 f28_281) gv) _ _ ls (by show 2 * (n26 - k25_278) + mo_3 + (1 - 0) < 2 * (n26 - a_4) + mo_3 + (1 - (0)); omega) ⟨rfl, (show 1 ≤ 1 from by omega), (show mo_3 ≤ 1 from by omega), (show 1 ≤ mo_3 ∨ 1 = 0 from by omega), (show k25_278 ≤ n26 from by omega), (show 2 * (d_8 + j_14 + x_295) ≤ k25_278 from by omega), (show 0 ≤ 3 from by omega), (show pil f28_281 k29_279 x_295 y_296 j_14 0 from hp_299), (show k31_280 = x_295 + y_296 from by omega), (show x_295 + y_296 ≤ 6 from by omega), (show 1 ≤ 0 ∨ wfs f19_10 (200 * n14) d_8 (j_14 + (1 - 1)) from Or.inr hw_188), (show ∀ i : Nat, i < 200 * n14 → f19_10 i = fv 19 i from hfr_28), (show plS f28_281 (12 :: sg_16) from g_304), (show k29_279 = (12 :: sg_16).length from (by rw [List.length_cons]; omega)), (show k31_280 = dep (12 :: sg_16) from (by rw [dep_y _ (by omega)]; omega)), (show 0 = 0 → mo_3 = 1 → Rch (fv 0) n26 (0, skB (fv 0) n26 n25, [], []) (1 - 1, skB (fv 0) n26 k25_278, (12 :: sg_16), Tm_17) from (fun _ _ => by rw [show skB (fv 0) n26 k25_278 = nxF (fv 0) n26 k25_200 from nx_4 (wd_40 hb40).2 (by omega)]; exact hr7.st (st_open hb40 (by omega)))), (show ¬ 0 = 0 → rcF (fv 0) n26 (0, skB (fv 0) n26 n25, [], []) 0 p22_277 from fun h9 => absurd rfl h9), (show mo_3 = 0 → 0 = 0 → eiE (fv 0) n26 (0, skB (fv 0) n26 n25, [], []) (12 :: sg_16) Tm_17 k25_278 from fun h9 => by omega), (show 0 = 0 → p22_277 = iv 22 from fun _ => (q_285 rfl).trans (hp0_35 rfl))⟩ hP hD hS (lv_sub hl [2, 3, 4] rfl)
    refine lv_iload hx hb dX9_either_51 (lv_at hl 0 rfl) ?_
    refine lv_iconst (v := 3) hx hb dX9_either_53 (by decide) ?_
    refine lv_icmp_ne (tgt := 76) hx hb dX9_either_54 (by decide) (fun c_307 => ?_) (fun c_307 => absurd c_307 (by decide))
    refine lv_iload_n hx hb dX9_either_76 rfl (lv_at hl 2 rfl) ?_
    refine lv_if_eq (tgt := 93) hx hb dX9_either_77 (by decide) (fun c_308 => absurd c_308 (by decide)) (fun c_308 => ?_)
    refine lv_aload_n hx hb dX9_either_80 rfl (lv_at hl 4 rfl) ?_
    have hFc := free_all hD hS hA
    refine va_callv (va_runV (As := []) (rest := []) ⟨hx, hb, hml, hown, hts⟩ (m_test_ l D h0 ad cs (upd (upd (upd (upd (upd (upd iv 21 (nI (0))) 22 p22_6) 25 (nI k25_200)) 29 (nI p_7)) 30 (nI d_8)) 31 (nI q_9)) (uF (uF fv 19 f19_10) 28 f28_11) gv n14 0 k25_200 n26 d_8  H.size h14 rfl rfl h26 rfl (by omega) (by omega) (by omega) (by omega) (by omega)) (cwV 0 hts gX9_either_X9_test_ rfl rfl rfl (by decide +kernel) ⟨Nat.le_of_ble_eq_true rfl, Nat.le_of_ble_eq_true rfl⟩) ⟨fun a U g mk q => by obtain ⟨q0, q1, qP, qK, qD⟩ := q; exact ⟨q0, q1, qP, va_K.moved (u := U) (U := U.calling g mk a) (Vm.Alike.refl U.vm) qK, qD⟩, va_recv hK hP (ci := 9) (q0 := 0) rfl rfl, fun U hU hW => ⟨rfl, by rw [hU], by rw [hU]; exact hP, va_K.moved hW.alike hK, hD.weaken (fun _ _ _ _ => trivial)⟩⟩ rfl rfl hl.1 rfl (lv_room (Nat.le_of_ble_eq_true rfl)) dX9_either_81 ⟨Nat.le_of_ble_eq_true rfl, Nat.le_of_ble_eq_true rfl⟩) hS (fun q _ h => hFc q h) hFc (fun u t H1 locs ht hvm w_310 hB hz1 hk1 hS => ?_)
    obtain ⟨k21_311, p22_312, k25_313, k30_314, f19_315, q_316, q_317, q_318, q_319, q_320, q_321, hP1, hK1, hD1⟩ := hB
    replace q_319 : (1 ≤ k21_311 ∧ k30_314 = d_8 ∧ f19_315 = (f19_10)) ∨ (k21_311 = 0 ∧ k30_314 = d_8 + 4 ∧ k25_200 + 8 ≤ k25_313 ∧ (∀ i : Nat, i < 200 * n14 + d_8 → f19_315 i = (f19_10) i) ∧ f19_315 (200 * n14 + d_8) = 13 ∧ okT (f19_315 (200 * n14 + (d_8 + 1)))) := q_319
    replace q_320 : TSX ((fv 0)) n26 (skB ((fv 0)) n26 k25_200) k21_311 p22_312 k25_313 := q_320
    replace q_321 : k21_311 = 0 → p22_312 = (p22_6) := q_321
    rw [ht] at hP1
    have hK := va_K.moved hvm.symm hK1
    generalize H1 = H at hP1 hS ⊢
    have hP : va_P D vwCl (mw h0 ad cs (upd (upd (upd (upd (upd (upd iv 21 (nI k21_311)) 22 p22_312) 25 (nI k25_313)) 29 (nI p_7)) 30 (nI k30_314)) 31 (nI q_9)) (uF (uF fv 19 f19_315) 28 f28_11) gv) H := hP1
    have hD : va_D A (mw h0 ad cs (upd (upd (upd (upd (upd (upd iv 21 (nI k21_311)) 22 p22_312) 25 (nI k25_313)) 29 (nI p_7)) 30 (nI k30_314)) 31 (nI q_9)) (uF (uF fv 19 f19_315) 28 f28_11) gv) := hD1.weaken (fun _ _ _ h => hFc _ h)
    have hno : ¬ ((k25_200 < n26 ∧ fv 0 k25_200 = 40) ∨ wdE (fv 0) n26 k25_200 = 3) := fun h9 => h9.elim (fun q9 => hr0.elim (fun z9 => by omega) (fun z9 => c_272 (z9.2.trans q9.2))) (fun q9 => by omega)
    obtain ⟨P_329, w_330, m_331, v_332, ht_333, h_334, h_335⟩ : TSX (fv 0) n26 k25_200 k21_311 p22_312 k25_313 := by rw [← hskb]; exact q_320
    rcases q_319 with ⟨hpos_322, e30_323, e19_324⟩ | ⟨rfl, e30_323, h8_325, hfr_326, h13_327, hok_328⟩
    · have hfr_336 : ∀ i : Nat, i < 200 * n14 → f19_315 i = fv 19 i := fun i h9 => by rw [e19_324]; exact hfr_28 i h9
      refine lv_aload_n hx hb dX9_either_84 rfl (lv_at hl 4 rfl) ?_
      have hFc := free_all hD hS hA
      refine va_callv (va_runV (As := []) (rest := []) ⟨hx, hb, hml, hown, hts⟩ (m_nots l D h0 ad cs (upd (upd (upd (upd (upd (upd iv 21 (nI k21_311)) 22 p22_312) 25 (nI k25_313)) 29 (nI p_7)) 30 (nI k30_314)) 31 (nI q_9)) (uF (uF fv 19 f19_315) 28 f28_11) gv n14 p_7 k30_314 q_9 x_12 y_13 j_14 k_15 sg_16 H.size h14 rfl rfl rfl (by omega) hp_24 (by omega) (by omega) (by omega) hpl_29 hpn_30) (cwV 0 hts gX9_either_X9_nots rfl rfl rfl (by decide +kernel) ⟨Nat.le_of_ble_eq_true rfl, Nat.le_of_ble_eq_true rfl⟩) ⟨fun a U g mk q => by obtain ⟨q0, q1, qP, qK, qD⟩ := q; exact ⟨q0, q1, qP, va_K.moved (u := U) (U := U.calling g mk a) (Vm.Alike.refl U.vm) qK, qD⟩, va_recv hK hP (ci := 9) (q0 := 0) rfl rfl, fun U hU hW => ⟨rfl, by rw [hU], by rw [hU]; exact hP, va_K.moved hW.alike hK, hD.weaken (fun _ _ _ _ => trivial)⟩⟩ rfl rfl hl.1 rfl (lv_room (Nat.le_of_ble_eq_true rfl)) dX9_either_85 ⟨Nat.le_of_ble_eq_true rfl, Nat.le_of_ble_eq_true rfl⟩) hS (fun q _ h => hFc q h) hFc (fun u t H1 locs ht hvm w_338 hB hz1 hk1 hS => ?_)
      obtain ⟨k29_339, k30_340, k31_341, f19_342, gx2_343, gk2_344, q_345, q_346, q_347, q_348, q_349, q_350, q_351, q_352, q_353, hP1, hK1, hD1⟩ := hB
      replace q_345 : pil ((f28_11)) k29_339 gx2_343 y_13 j_14 gk2_344 := q_345
      replace q_349 : ∀ i : Nat, i < 200 * n14 → f19_342 i = (f19_315) i := q_349
      replace q_350 : ∀ n : Nat, 1 ≤ n → wfs ((f19_315)) (200 * n14) k30_314 n → wfs f19_342 (200 * n14) k30_340 n := q_350
      replace q_351 : plS ((f28_11)) (pN sg_16) := q_351
      rw [ht] at hP1
      have hK := va_K.moved hvm.symm hK1
      generalize H1 = H at hP1 hS ⊢
      have hP : va_P D vwCl (mw h0 ad cs (upd (upd (upd (upd (upd (upd iv 21 (nI k21_311)) 22 p22_312) 25 (nI k25_313)) 29 (nI k29_339)) 30 (nI k30_340)) 31 (nI k31_341)) (uF (uF fv 19 f19_342) 28 f28_11) gv) H := hP1
      have hD : va_D A (mw h0 ad cs (upd (upd (upd (upd (upd (upd iv 21 (nI k21_311)) 22 p22_312) 25 (nI k25_313)) 29 (nI k29_339)) 30 (nI k30_340)) 31 (nI k31_341)) (uF (uF fv 19 f19_342) 28 f28_11) gv) := hD1.weaken (fun _ _ _ h => hFc _ h)
      have hfr_354 : ∀ i : Nat, i < 200 * n14 → f19_342 i = fv 19 i := fun i h9 => (q_349 i h9).trans (hfr_336 i h9)
      refine lv_iconst (v := 0) hx hb dX9_either_88 (by decide) ?_
      refine lv_istore_n (lv' := [(1, .int 0), (4, .int (-1)), (3, .int r_189), (2, .int (nI mo_3)), (0, .ref h0)]) hx hb dX9_either_89 rfl hl (by decide) rfl (fun ls hl => ?_)
      refine lv_goto (tgt := 202) hx hb dX9_either_90 (by decide) ?_
      refine lv_goto (tgt := 19) hx hb dX9_either_202 (by decide) ?_
      exact ih_1 (0, mo_3, k25_313, k21_311, p22_312, k29_339, k30_340, k31_341, f19_342, f28_11, gx2_343, y_13, j_14, gk2_344, pN sg_16, Tm_17) (mw h0 ad cs (upd (upd (upd (upd (upd (upd iv 21 (nI k21_311)) 22 p22_312) 25 (nI k25_313)) 29 (nI k29_339)) 30 (nI k30_340)) 31 (nI k31_341)) (uF (uF fv 19 f19_342) 28 f28_11) gv) _ _ ls (by show 2 * (n26 - k25_313) + mo_3 + (1 - k21_311) < 2 * (n26 - a_4) + mo_3 + (1 - (0)); omega) ⟨rfl, (show 0 ≤ 1 from by omega), (show mo_3 ≤ 1 from by omega), (show 1 ≤ mo_3 ∨ 0 = 0 from by omega), (show k25_313 ≤ n26 from by omega), (show 2 * (k30_340 + j_14 + gx2_343) ≤ k25_313 from by omega), (show k21_311 ≤ 3 from by omega), (show pil f28_11 k29_339 gx2_343 y_13 j_14 gk2_344 from q_345), (show k31_341 = gx2_343 + y_13 from by omega), (show gx2_343 + y_13 ≤ 6 from by omega), (show 1 ≤ k21_311 ∨ wfs f19_342 (200 * n14) k30_340 (j_14 + (1 - 0)) from Or.inl (by omega)), (show ∀ i : Nat, i < 200 * n14 → f19_342 i = fv 19 i from hfr_354), (show plS f28_11 (pN sg_16) from q_351), (show k29_339 = (pN sg_16).length from q_352), (show k31_341 = dep (pN sg_16) from by omega), (show k21_311 = 0 → mo_3 = 1 → Rch (fv 0) n26 (0, skB (fv 0) n26 n25, [], []) (1 - 0, skB (fv 0) n26 k25_313, (pN sg_16), Tm_17) from fun h9 _ => absurd h9 (by omega)), (show ¬ k21_311 = 0 → rcF (fv 0) n26 (0, skB (fv 0) n26 n25, [], []) k21_311 p22_312 from fun _ => ⟨P_329, h_335 (by omega), hr7.st (st_tf hno ht_333 (by omega))⟩), (show mo_3 = 0 → k21_311 = 0 → eiE (fv 0) n26 (0, skB (fv 0) n26 n25, [], []) (pN sg_16) Tm_17 k25_313 from fun h9 => by omega), (show k21_311 = 0 → p22_312 = iv 22 from fun h9 => absurd h9 (by omega))⟩ hP hD hS (lv_sub hl [0, 3, 4] rfl)
    have hw_355 : wfs f19_315 (200 * n14) k30_314 (j_14 + 1) := by rw [e30_323]; exact (hw_188).tei hfr_326 h13_327 hok_328
    have hfr_356 : ∀ i : Nat, i < 200 * n14 → f19_315 i = fv 19 i := fun i h9 => (hfr_326 i (by omega)).trans (hfr_28 i h9)
    refine lv_aload_n hx hb dX9_either_84 rfl (lv_at hl 4 rfl) ?_
    have hFc := free_all hD hS hA
    refine va_callv (va_runV (As := []) (rest := []) ⟨hx, hb, hml, hown, hts⟩ (m_nots l D h0 ad cs (upd (upd (upd (upd (upd (upd iv 21 (nI 0)) 22 p22_312) 25 (nI k25_313)) 29 (nI p_7)) 30 (nI k30_314)) 31 (nI q_9)) (uF (uF fv 19 f19_315) 28 f28_11) gv n14 p_7 k30_314 q_9 x_12 y_13 j_14 k_15 sg_16 H.size h14 rfl rfl rfl (by omega) hp_24 (by omega) (by omega) (by omega) hpl_29 hpn_30) (cwV 0 hts gX9_either_X9_nots rfl rfl rfl (by decide +kernel) ⟨Nat.le_of_ble_eq_true rfl, Nat.le_of_ble_eq_true rfl⟩) ⟨fun a U g mk q => by obtain ⟨q0, q1, qP, qK, qD⟩ := q; exact ⟨q0, q1, qP, va_K.moved (u := U) (U := U.calling g mk a) (Vm.Alike.refl U.vm) qK, qD⟩, va_recv hK hP (ci := 9) (q0 := 0) rfl rfl, fun U hU hW => ⟨rfl, by rw [hU], by rw [hU]; exact hP, va_K.moved hW.alike hK, hD.weaken (fun _ _ _ _ => trivial)⟩⟩ rfl rfl hl.1 rfl (lv_room (Nat.le_of_ble_eq_true rfl)) dX9_either_85 ⟨Nat.le_of_ble_eq_true rfl, Nat.le_of_ble_eq_true rfl⟩) hS (fun q _ h => hFc q h) hFc (fun u t H1 locs ht hvm w_358 hB hz1 hk1 hS => ?_)
    obtain ⟨k29_359, k30_360, k31_361, f19_362, gx2_363, gk2_364, q_365, q_366, q_367, q_368, q_369, q_370, q_371, q_372, q_373, hP1, hK1, hD1⟩ := hB
    replace q_365 : pil ((f28_11)) k29_359 gx2_363 y_13 j_14 gk2_364 := q_365
    replace q_369 : ∀ i : Nat, i < 200 * n14 → f19_362 i = (f19_315) i := q_369
    replace q_370 : ∀ n : Nat, 1 ≤ n → wfs ((f19_315)) (200 * n14) k30_314 n → wfs f19_362 (200 * n14) k30_360 n := q_370
    replace q_371 : plS ((f28_11)) (pN sg_16) := q_371
    rw [ht] at hP1
    have hK := va_K.moved hvm.symm hK1
    generalize H1 = H at hP1 hS ⊢
    have hP : va_P D vwCl (mw h0 ad cs (upd (upd (upd (upd (upd (upd iv 21 (nI 0)) 22 p22_312) 25 (nI k25_313)) 29 (nI k29_359)) 30 (nI k30_360)) 31 (nI k31_361)) (uF (uF fv 19 f19_362) 28 f28_11) gv) H := hP1
    have hD : va_D A (mw h0 ad cs (upd (upd (upd (upd (upd (upd iv 21 (nI 0)) 22 p22_312) 25 (nI k25_313)) 29 (nI k29_359)) 30 (nI k30_360)) 31 (nI k31_361)) (uF (uF fv 19 f19_362) 28 f28_11) gv) := hD1.weaken (fun _ _ _ h => hFc _ h)
    have hfr_374 : ∀ i : Nat, i < 200 * n14 → f19_362 i = fv 19 i := fun i h9 => (q_369 i h9).trans (hfr_356 i h9)
    refine lv_iconst (v := 0) hx hb dX9_either_88 (by decide) ?_
    refine lv_istore_n (lv' := [(1, .int 0), (4, .int (-1)), (3, .int r_189), (2, .int (nI mo_3)), (0, .ref h0)]) hx hb dX9_either_89 rfl hl (by decide) rfl (fun ls hl => ?_)
    refine lv_goto (tgt := 202) hx hb dX9_either_90 (by decide) ?_
    refine lv_goto (tgt := 19) hx hb dX9_either_202 (by decide) ?_
    exact ih_1 (0, mo_3, k25_313, 0, p22_312, k29_359, k30_360, k31_361, f19_362, f28_11, gx2_363, y_13, j_14, gk2_364, pN sg_16, (Tm_17 ++ [(13, w_330, m_331, v_332)]) ++ eN sg_16) (mw h0 ad cs (upd (upd (upd (upd (upd (upd iv 21 (nI 0)) 22 p22_312) 25 (nI k25_313)) 29 (nI k29_359)) 30 (nI k30_360)) 31 (nI k31_361)) (uF (uF fv 19 f19_362) 28 f28_11) gv) _ _ ls (by show 2 * (n26 - k25_313) + mo_3 + (1 - 0) < 2 * (n26 - a_4) + mo_3 + (1 - (0)); omega) ⟨rfl, (show 0 ≤ 1 from by omega), (show mo_3 ≤ 1 from by omega), (show 1 ≤ mo_3 ∨ 0 = 0 from by omega), (show k25_313 ≤ n26 from by omega), (show 2 * (k30_360 + j_14 + gx2_363) ≤ k25_313 from by omega), (show 0 ≤ 3 from by omega), (show pil f28_11 k29_359 gx2_363 y_13 j_14 gk2_364 from q_365), (show k31_361 = gx2_363 + y_13 from by omega), (show gx2_363 + y_13 ≤ 6 from by omega), (show 1 ≤ 0 ∨ wfs f19_362 (200 * n14) k30_360 (j_14 + (1 - 0)) from Or.inr (q_370 _ (by omega) hw_355)), (show ∀ i : Nat, i < 200 * n14 → f19_362 i = fv 19 i from hfr_374), (show plS f28_11 (pN sg_16) from q_371), (show k29_359 = (pN sg_16).length from q_372), (show k31_361 = dep (pN sg_16) from by omega), (show 0 = 0 → mo_3 = 1 → Rch (fv 0) n26 (0, skB (fv 0) n26 n25, [], []) (1 - 0, skB (fv 0) n26 k25_313, (pN sg_16), ((Tm_17 ++ [(13, w_330, m_331, v_332)]) ++ eN sg_16)) from (fun _ _ => by rw [h_334 rfl]; exact hr7.st (st_te hno ht_333))), (show ¬ 0 = 0 → rcF (fv 0) n26 (0, skB (fv 0) n26 n25, [], []) 0 p22_312 from fun h9 => absurd rfl h9), (show mo_3 = 0 → 0 = 0 → eiE (fv 0) n26 (0, skB (fv 0) n26 n25, [], []) (pN sg_16) ((Tm_17 ++ [(13, w_330, m_331, v_332)]) ++ eN sg_16) k25_313 from fun h9 => by omega), (show 0 = 0 → p22_312 = iv 22 from fun _ => (q_321 rfl).trans (hp0_35 rfl))⟩ hP hD hS (lv_sub hl [0, 3, 4] rfl)
  have he_208b : k25_200 ≤ e_207 ∧ e_207 ≤ n26 := ⟨he_208.1, he_208.2.1⟩
  refine lv_istore (lv' := [(4, .int (nI c_206)), (3, .int r_189), (1, .int (nI du_2)), (2, .int (nI mo_3)), (0, .ref h0)]) hx hb dX9_either_39 hl (by decide) rfl (fun ls hl => ?_)
  refine lv_iload_n hx hb dX9_either_41 rfl (lv_at hl 2 rfl) ?_
  refine lv_if_eq (tgt := 76) hx hb dX9_either_42 (by decide) (fun c_375 => ?_) (fun c_375 => ?_)
  · have d_376 := n_eq (a := du_2) (b := 0) (by omega) (by omega) c_375
    obtain rfl : du_2 = 0 := by omega
    have hr7 : Rch (fv 0) n26 (0, skB (fv 0) n26 n25, [], []) (1, k25_200, sg_16, Tm_17) := hr8
    refine lv_iload_n hx hb dX9_either_76 rfl (lv_at hl 2 rfl) ?_
    refine lv_if_eq (tgt := 93) hx hb dX9_either_77 (by decide) (fun c_377 => ?_) (fun c_377 => absurd (by decide) c_377)
    refine lv_iload hx hb dX9_either_93 (lv_at hl 0 rfl) ?_
    refine lv_iconst (v := 2) hx hb dX9_either_95 (by decide) ?_
    refine lv_icmp_eq (tgt := 105) hx hb dX9_either_96 (by decide) (fun c_378 => ?_) (fun c_378 => ?_)
    · have d_379 := n_eq (a := c_206) (b := 2) (by omega) (by omega) c_378
      obtain rfl : c_206 = 2 := by omega
      have heL : e_207 = k25_200 + 3 := by omega
      clear hc_209
      refine lv_aload_n hx hb dX9_either_105 rfl (lv_at hl 4 rfl) ?_
      refine lv_iload hx hb dX9_either_106 (lv_at hl 0 rfl) ?_
      have hFc := free_all hD hS hA
      refine va_callv (va_runV (As := [.int (nI (2))]) (rest := []) ⟨hx, hb, hml, hown, hts⟩ (m_joins l D h0 ad cs (upd (upd (upd (upd (upd (upd iv 21 (nI (0))) 22 p22_6) 25 (nI k25_200)) 29 (nI p_7)) 30 (nI d_8)) 31 (nI q_9)) (uF (uF fv 19 f19_10) 28 f28_11) gv n14 p_7 d_8 2 x_12 y_13 j_14 k_15 sg_16 H.size h14 rfl rfl (by omega) (by omega) hp_24 (by omega) (by omega) hpl_29 hpn_30) (cwV 1 hts gX9_either_X9_joins rfl rfl rfl (by decide +kernel) ⟨Nat.le_of_ble_eq_true rfl, Nat.le_of_ble_eq_true rfl⟩) ⟨fun a U g mk q => by obtain ⟨q0, q1, qP, qK, qD⟩ := q; exact ⟨q0, q1, qP, va_K.moved (u := U) (U := U.calling g mk a) (Vm.Alike.refl U.vm) qK, qD⟩, va_recv hK hP (ci := 9) (q0 := 0) rfl rfl, fun U hU hW => ⟨rfl, by rw [hU], by rw [hU]; exact hP, va_K.moved hW.alike hK, hD.weaken (fun _ _ _ _ => trivial)⟩⟩ rfl rfl hl.1 rfl (lv_room (Nat.le_of_ble_eq_true rfl)) dX9_either_108 ⟨Nat.le_of_ble_eq_true rfl, Nat.le_of_ble_eq_true rfl⟩) hS (fun q _ h => hFc q h) hFc (fun u t H1 locs ht hvm w_381 hB hz1 hk1 hS => ?_)
      obtain ⟨k29_382, k30_383, f19_384, gj2_385, gk2_386, q_387, q_388, q_389, q_390, q_391, q_392, q_393, q_394, q_395, q_396, hP1, hK1, hD1⟩ := hB
      replace q_387 : pil ((f28_11)) k29_382 x_12 y_13 gj2_385 gk2_386 := q_387
      replace q_391 : ∀ i : Nat, k29_382 ≤ i → i < p_7 → (f28_11) i = 1 ∨ (f28_11) i = 2 := q_391
      replace q_392 : ∀ i : Nat, i < 200 * n14 → f19_384 i = (f19_10) i := q_392
      replace q_393 : wfs ((f19_10)) (200 * n14) d_8 (j_14 + 1) → wfs f19_384 (200 * n14) k30_383 (gj2_385 + 1) := q_393
      replace q_395 : plS ((f28_11)) (jW 2 sg_16) := q_395
      rw [ht] at hP1
      have hK := va_K.moved hvm.symm hK1
      generalize H1 = H at hP1 hS ⊢
      have hP : va_P D vwCl (mw h0 ad cs (upd (upd (upd (upd (upd (upd iv 21 (nI (0))) 22 p22_6) 25 (nI k25_200)) 29 (nI k29_382)) 30 (nI k30_383)) 31 (nI q_9)) (uF (uF fv 19 f19_384) 28 f28_11) gv) H := hP1
      have hD : va_D A (mw h0 ad cs (upd (upd (upd (upd (upd (upd iv 21 (nI (0))) 22 p22_6) 25 (nI k25_200)) 29 (nI k29_382)) 30 (nI k30_383)) 31 (nI q_9)) (uF (uF fv 19 f19_384) 28 f28_11) gv) := hD1.weaken (fun _ _ _ h => hFc _ h)
      have hjl : plS f28_11 (jA sg_16) := q_395
      have hjn : k29_382 = (jA sg_16).length := q_396
      have hfr_397 : ∀ i : Nat, i < 200 * n14 → f19_384 i = fv 19 i := fun i h9 => (q_392 i h9).trans (hfr_28 i h9)
      have hw_398 := q_393 hw_188
      have hlen2 := q_387.len
      refine lv_aload_n hx hb dX9_either_111 rfl (lv_at hl 4 rfl) ?_
      refine va_get (D := D) (ci := 9) (v := .ref (ad 28)) (C := RX9) (T := TX9) (N := 44) hx hb hts hin9 hown hK hP 0 rfl rfl 28 (by decide) (hts (.fieldLink RX9 96 "HoneyHouseModel" "pile" "[I") (List.mem_of_getElem? (i := 5) rfl)) (fun _ h9 => h9) rfl dX9_either_112 ?_
      refine lv_aload_n hx hb dX9_either_115 rfl (lv_at hl 4 rfl) ?_
      refine va_get (D := D) (ci := 9) (v := .int (nI k29_382)) (C := RX9) (T := TX9) (N := 44) hx hb hts hin9 hown hK hP 0 rfl rfl 29 (by decide) (hts (.fieldLink RX9 99 "HoneyHouseModel" "piled" "I") (List.mem_of_getElem? (i := 1) rfl)) (fun _ h9 => h9) rfl dX9_either_116 ?_
      refine lv_iload hx hb dX9_either_119 (lv_at hl 0 rfl) ?_
      refine va_iast (f := f28_11) (n := 32) hx hb hK hP hD hS 19 18 rfl rfl (vp_in_nI (n := k29_382) (by omega) (by omega)) dX9_either_121 (fun H locs hP hD hS => ?_)
      have hP : va_P D vwCl (mw h0 ad cs (upd (upd (upd (upd (upd (upd iv 21 (nI (0))) 22 p22_6) 25 (nI k25_200)) 29 (nI k29_382)) 30 (nI k30_383)) 31 (nI q_9)) (uF (uF fv 19 f19_384) 28 (upd f28_11 (nI k29_382).toNatClampNeg (nI (2)))) gv) H := hP
      have hD : va_D A (mw h0 ad cs (upd (upd (upd (upd (upd (upd iv 21 (nI (0))) 22 p22_6) 25 (nI k25_200)) 29 (nI k29_382)) 30 (nI k30_383)) 31 (nI q_9)) (uF (uF fv 19 f19_384) 28 (upd f28_11 (nI k29_382).toNatClampNeg (nI (2)))) gv) := hD
      obtain ⟨f_399, hf_400⟩ : ∃ g9, g9 = upd f28_11 (nI k29_382).toNatClampNeg (nI (2)) := ⟨_, rfl⟩
      rw [← hf_400] at hP hD
      rw [nI_clamp (n := k29_382) (by omega)] at hf_400
      have hp_401 : pil f_399 (k29_382 + 1) x_12 y_13 (gj2_385 + 1) 2 := by rw [hf_400]; exact (q_387.up _).an (by omega) up_eq
      refine lv_aload_n hx hb dX9_either_122 rfl (lv_at hl 4 rfl) ?_
      refine lv_dup hx hb dX9_either_123 rfl ?_
      refine va_get (D := D) (ci := 9) (v := .int (nI k29_382)) (C := RX9) (T := TX9) (N := 44) hx hb hts hin9 hown hK hP 0 rfl rfl 29 (by decide) (hts (.fieldLink RX9 99 "HoneyHouseModel" "piled" "I") (List.mem_of_getElem? (i := 1) rfl)) (fun _ h9 => h9) rfl dX9_either_124 ?_
      refine lv_iconst (v := 1) hx hb dX9_either_127 (by decide) ?_
      refine lv_iadd hx hb dX9_either_128 ?_
      refine tp_i (y := nI (k29_382 + 1)) (nI_add k29_382 1) ?_
      refine va_put (D := D) (ci := 9) (v := .int (nI (k29_382 + 1))) (ty := .int) (C := RX9) (T := TX9) (N := 44) hx hb hts hin9 tyX9 tyX9_ok nmX9 hown hK hP hD hS 0 rfl rfl 29 (by decide) (hts (.fieldLink RX9 99 "HoneyHouseModel" "piled" "I") (List.mem_of_getElem? (i := 1) rfl)) (fun _ h9 => h9) rfl (tyX9_ok 29 (by decide)) rfl rfl (Nat.le_of_ble_eq_true rfl) dX9_either_129 (fun H locs hP hD hS => ?_)
      have hP : va_P D vwCl (mw h0 ad cs (upd (upd (upd (upd (upd (upd iv 21 (nI (0))) 22 p22_6) 25 (nI k25_200)) 29 (nI (k29_382 + 1))) 30 (nI k30_383)) 31 (nI q_9)) (uF (uF fv 19 f19_384) 28 f_399) gv) H := hP
      have hD : va_D A (mw h0 ad cs (upd (upd (upd (upd (upd (upd iv 21 (nI (0))) 22 p22_6) 25 (nI k25_200)) 29 (nI (k29_382 + 1))) 30 (nI k30_383)) 31 (nI q_9)) (uF (uF fv 19 f19_384) 28 f_399) gv) := hD
      refine lv_aload_n hx hb dX9_either_132 rfl (lv_at hl 4 rfl) ?_
      refine lv_aload_n hx hb dX9_either_133 rfl (lv_at hl 4 rfl) ?_
      refine vp_callSi (W.runV (As := []) (rest := [.ref h0]) ⟨hx, hb, hml, hown, hts⟩ (m_wordEnd l D h0 ad cs (upd (upd (upd (upd (upd (upd iv 21 (nI (0))) 22 p22_6) 25 (nI k25_200)) 29 (nI (k29_382 + 1))) 30 (nI k30_383)) 31 (nI q_9)) (uF (uF fv 19 f19_384) 28 f_399) gv k25_200 n26  rfl h26 (by omega) (by omega)) (cwV 0 hts gX9_either_X9_wordEnd rfl rfl rfl (by decide +kernel) ⟨Nat.le_of_ble_eq_true rfl, Nat.le_of_ble_eq_true rfl⟩) ⟨fun a U g mk q => ⟨q.1, q.2.1, va_K.moved (u := U) (U := U.calling g mk a) (Vm.Alike.refl U.vm) q.2.2⟩, va_recv hK hP (ci := 9) (q0 := 0) rfl rfl, fun U hU hW => ⟨rfl, by rw [hU]; exact hP, va_K.moved hW.alike hK⟩⟩ rfl rfl hl.1 rfl (lv_room (Nat.le_of_ble_eq_true rfl)) dX9_either_134 ⟨Nat.le_of_ble_eq_true rfl, Nat.le_of_ble_eq_true rfl⟩) (fun r_402 k_403 => ?_)
      obtain ⟨e_404, rfl, he_405⟩ := k_403
      have hq_e_404 : e_404 = e_207 := he_405.uq he_208
      refine va_put (D := D) (ci := 9) (v := .int (nI e_404)) (ty := .int) (C := RX9) (T := TX9) (N := 44) hx hb hts hin9 tyX9 tyX9_ok nmX9 hown hK hP hD hS 0 rfl rfl 25 (by decide) (hts (.fieldLink RX9 87 "HoneyHouseModel" "at" "I") (List.mem_of_getElem? (i := 6) rfl)) (fun _ h9 => h9) rfl (tyX9_ok 25 (by decide)) rfl rfl (Nat.le_of_ble_eq_true rfl) dX9_either_137 (fun H locs hP hD hS => ?_)
      have hP : va_P D vwCl (mw h0 ad cs (upd (upd (upd (upd (upd (upd iv 21 (nI (0))) 22 p22_6) 25 (nI e_404)) 29 (nI (k29_382 + 1))) 30 (nI k30_383)) 31 (nI q_9)) (uF (uF fv 19 f19_384) 28 f_399) gv) H := hP
      have hD : va_D A (mw h0 ad cs (upd (upd (upd (upd (upd (upd iv 21 (nI (0))) 22 p22_6) 25 (nI e_404)) 29 (nI (k29_382 + 1))) 30 (nI k30_383)) 31 (nI q_9)) (uF (uF fv 19 f19_384) 28 f_399) gv) := hD
      have hwj : wdE (fv 0) n26 k25_200 = 2 := by omega
      refine lv_iconst (v := 1) hx hb dX9_either_140 (by decide) ?_
      refine lv_istore_n (lv' := [(1, .int 1), (4, .int (nI (2))), (3, .int r_189), (2, .int (nI mo_3)), (0, .ref h0)]) hx hb dX9_either_141 rfl hl (by decide) rfl (fun ls hl => ?_)
      refine lv_goto (tgt := 202) hx hb dX9_either_142 (by decide) ?_
      refine lv_goto (tgt := 19) hx hb dX9_either_202 (by decide) ?_
      exact ih_1 (1, mo_3, e_404, 0, p22_6, k29_382 + 1, k30_383, q_9, f19_384, f_399, x_12, y_13, gj2_385 + 1, 2, 2 :: jA sg_16, Tm_17 ++ eA sg_16) (mw h0 ad cs (upd (upd (upd (upd (upd (upd iv 21 (nI 0)) 22 p22_6) 25 (nI e_404)) 29 (nI (k29_382 + 1))) 30 (nI k30_383)) 31 (nI q_9)) (uF (uF fv 19 f19_384) 28 f_399) gv) _ _ ls (by show 2 * (n26 - e_404) + mo_3 + (1 - 0) < 2 * (n26 - a_4) + mo_3 + (1 - (0)); omega) ⟨rfl, (show 1 ≤ 1 from by omega), (show mo_3 ≤ 1 from by omega), (show 1 ≤ mo_3 ∨ 1 = 0 from by omega), (show e_404 ≤ n26 from by omega), (show 2 * (k30_383 + (gj2_385 + 1) + x_12) ≤ e_404 from by omega), (show 0 ≤ 3 from by omega), (show pil f_399 (k29_382 + 1) x_12 y_13 (gj2_385 + 1) 2 from hp_401), (show q_9 = x_12 + y_13 from by omega), (show x_12 + y_13 ≤ 6 from by omega), (show 1 ≤ 0 ∨ wfs f19_384 (200 * n14) k30_383 ((gj2_385 + 1) + (1 - 1)) from Or.inr hw_398), (show ∀ i : Nat, i < 200 * n14 → f19_384 i = fv 19 i from hfr_397), (show plS f_399 (2 :: jA sg_16) from (by rw [hf_400]; exact hjl.push hjn (by omega) rfl)), (show (k29_382 + 1) = (2 :: jA sg_16).length from (by rw [List.length_cons]; omega)), (show q_9 = dep (2 :: jA sg_16) from (by rw [dep_n _ (by omega), dep_jA]; omega)), (show 0 = 0 → mo_3 = 1 → Rch (fv 0) n26 (0, skB (fv 0) n26 n25, [], []) (1 - 1, skB (fv 0) n26 e_404, (2 :: jA sg_16), (Tm_17 ++ eA sg_16)) from (fun _ _ => by rw [show skB (fv 0) n26 e_404 = nxF (fv 0) n26 k25_200 from nx_e (by omega) hwj (he_208.r.trans (by omega))]; exact hr7.st (st_and hwj))), (show ¬ 0 = 0 → rcF (fv 0) n26 (0, skB (fv 0) n26 n25, [], []) 0 p22_6 from fun h9 => absurd rfl h9), (show mo_3 = 0 → 0 = 0 → eiE (fv 0) n26 (0, skB (fv 0) n26 n25, [], []) (2 :: jA sg_16) (Tm_17 ++ eA sg_16) e_404 from fun h9 => by omega), (show 0 = 0 → p22_6 = iv 22 from fun _ => hp0_35 rfl)⟩ hP hD hS (lv_sub hl [0, 3, 4] rfl)
    have d_406 := n_ne (a := c_206) (b := 2) (by omega) (by omega) c_378
    refine lv_iload hx hb dX9_either_99 (lv_at hl 0 rfl) ?_
    refine lv_iconst (v := 1) hx hb dX9_either_101 (by decide) ?_
    refine lv_icmp_ne (tgt := 145) hx hb dX9_either_102 (by decide) (fun c_407 => ?_) (fun c_407 => ?_)
    · have d_408 := n_ne (a := c_206) (b := 1) (by omega) (by omega) c_407
      have hw12 : ¬ (wdE (fv 0) n26 k25_200 = 1 ∨ wdE (fv 0) n26 k25_200 = 2) := by omega
      clear hc_209
      refine lv_iload_n hx hb dX9_either_145 rfl (lv_at hl 1 rfl) ?_
      refine lv_bipush (v := 41) hx hb dX9_either_146 (by decide) ?_
      refine lv_icmp_ne (tgt := 200) hx hb dX9_either_148 (by decide) (fun c_409 => ?_) (fun c_409 => ?_)
      · refine lv_iconst (v := 0) hx hb dX9_either_200 (by decide) ?_
        refine lv_istore_n (lv' := [(2, .int 0), (4, .int (nI c_206)), (3, .int r_189), (1, .int (nI (0))), (0, .ref h0)]) hx hb dX9_either_201 rfl hl (by decide) rfl (fun ls hl => ?_)
        refine lv_goto (tgt := 19) hx hb dX9_either_202 (by decide) ?_
        exact ih_1 (0, 0, k25_200, 0, p22_6, p_7, d_8, q_9, f19_10, f28_11, x_12, y_13, j_14, k_15, sg_16, Tm_17) (mw h0 ad cs (upd (upd (upd (upd (upd (upd iv 21 (nI 0)) 22 p22_6) 25 (nI k25_200)) 29 (nI p_7)) 30 (nI d_8)) 31 (nI q_9)) (uF (uF fv 19 f19_10) 28 f28_11) gv) _ _ ls (by show 2 * (n26 - k25_200) + 0 + (1 - 0) < 2 * (n26 - a_4) + mo_3 + (1 - (0)); omega) ⟨rfl, (show 0 ≤ 1 from by omega), (show 0 ≤ 1 from by omega), (show 1 ≤ 0 ∨ 0 = 0 from by omega), (show k25_200 ≤ n26 from by omega), (show 2 * (d_8 + j_14 + x_12) ≤ k25_200 from by omega), (show 0 ≤ 3 from by omega), (show pil f28_11 p_7 x_12 y_13 j_14 k_15 from hp_24), (show q_9 = x_12 + y_13 from by omega), (show x_12 + y_13 ≤ 6 from by omega), (show 1 ≤ 0 ∨ wfs f19_10 (200 * n14) d_8 (j_14 + (1 - 0)) from Or.inr hw_188), (show ∀ i : Nat, i < 200 * n14 → f19_10 i = fv 19 i from hfr_28), (show plS f28_11 sg_16 from hpl_29), (show p_7 = sg_16.length from hpn_30), (show q_9 = dep sg_16 from by omega), (show 0 = 0 → 0 = 1 → Rch (fv 0) n26 (0, skB (fv 0) n26 n25, [], []) (1 - 0, skB (fv 0) n26 k25_200, sg_16, Tm_17) from fun _ h9 => absurd h9 (by omega)), (show ¬ 0 = 0 → rcF (fv 0) n26 (0, skB (fv 0) n26 n25, [], []) 0 p22_6 from fun h9 => absurd rfl h9), (show 0 = 0 → 0 = 0 → eiE (fv 0) n26 (0, skB (fv 0) n26 n25, [], []) sg_16 Tm_17 k25_200 from (fun _ _ => ⟨hr7, by omega, (fun h9 => hr0.elim (fun z9 => by omega) (fun z9 => c_409 (z9.2.trans h9.1.2))), hskb⟩)), (show 0 = 0 → p22_6 = iv 22 from fun _ => hp0_35 rfl)⟩ hP hD hS (lv_sub hl [3, 0, 4] rfl)
      have hlt41 : k25_191 < n26 := q_196.elim (fun h9 => absurd (h9.1.symm.trans c_409) (by decide)) (fun h9 => h9.1)
      refine lv_aload_n hx hb dX9_either_151 rfl (lv_at hl 4 rfl) ?_
      refine vp_callSi (W.runV (As := []) (rest := []) ⟨hx, hb, hml, hown, hts⟩ (m_brackets l D h0 ad cs (upd (upd (upd (upd (upd (upd iv 21 (nI (0))) 22 p22_6) 25 (nI k25_200)) 29 (nI p_7)) 30 (nI d_8)) 31 (nI q_9)) (uF (uF fv 19 f19_10) 28 f28_11) gv p_7 sg_16 rfl (by omega) hpl_29 hpn_30) (cwV 0 hts gX9_either_X9_brackets rfl rfl rfl (by decide +kernel) ⟨Nat.le_of_ble_eq_true rfl, Nat.le_of_ble_eq_true rfl⟩) ⟨fun a U g mk q => ⟨q.1, q.2.1, va_K.moved (u := U) (U := U.calling g mk a) (Vm.Alike.refl U.vm) q.2.2⟩, va_recv hK hP (ci := 9) (q0 := 0) rfl rfl, fun U hU hW => ⟨rfl, by rw [hU]; exact hP, va_K.moved hW.alike hK⟩⟩ rfl rfl hl.1 rfl (lv_room (Nat.le_of_ble_eq_true rfl)) dX9_either_152 ⟨Nat.le_of_ble_eq_true rfl, Nat.le_of_ble_eq_true rfl⟩) (fun r_410 k_411 => ?_)
      obtain ⟨b_412, rfl, hb_413, hb_414, hb_415⟩ := k_411
      refine lv_if_le (tgt := 200) hx hb dX9_either_155 (by decide) (fun c_416 => ?_) (fun c_416 => ?_)
      · have d_417 := n_le (a := b_412) (b := 0) (by omega) (by omega) c_416
        refine lv_iconst (v := 0) hx hb dX9_either_200 (by decide) ?_
        refine lv_istore_n (lv' := [(2, .int 0), (4, .int (nI c_206)), (3, .int r_189), (1, .int (nI (0))), (0, .ref h0)]) hx hb dX9_either_201 rfl hl (by decide) rfl (fun ls hl => ?_)
        refine lv_goto (tgt := 19) hx hb dX9_either_202 (by decide) ?_
        exact ih_1 (0, 0, k25_200, 0, p22_6, p_7, d_8, q_9, f19_10, f28_11, x_12, y_13, j_14, k_15, sg_16, Tm_17) (mw h0 ad cs (upd (upd (upd (upd (upd (upd iv 21 (nI 0)) 22 p22_6) 25 (nI k25_200)) 29 (nI p_7)) 30 (nI d_8)) 31 (nI q_9)) (uF (uF fv 19 f19_10) 28 f28_11) gv) _ _ ls (by show 2 * (n26 - k25_200) + 0 + (1 - 0) < 2 * (n26 - a_4) + mo_3 + (1 - (0)); omega) ⟨rfl, (show 0 ≤ 1 from by omega), (show 0 ≤ 1 from by omega), (show 1 ≤ 0 ∨ 0 = 0 from by omega), (show k25_200 ≤ n26 from by omega), (show 2 * (d_8 + j_14 + x_12) ≤ k25_200 from by omega), (show 0 ≤ 3 from by omega), (show pil f28_11 p_7 x_12 y_13 j_14 k_15 from hp_24), (show q_9 = x_12 + y_13 from by omega), (show x_12 + y_13 ≤ 6 from by omega), (show 1 ≤ 0 ∨ wfs f19_10 (200 * n14) d_8 (j_14 + (1 - 0)) from Or.inr hw_188), (show ∀ i : Nat, i < 200 * n14 → f19_10 i = fv 19 i from hfr_28), (show plS f28_11 sg_16 from hpl_29), (show p_7 = sg_16.length from hpn_30), (show q_9 = dep sg_16 from by omega), (show 0 = 0 → 0 = 1 → Rch (fv 0) n26 (0, skB (fv 0) n26 n25, [], []) (1 - 0, skB (fv 0) n26 k25_200, sg_16, Tm_17) from fun _ h9 => absurd h9 (by omega)), (show ¬ 0 = 0 → rcF (fv 0) n26 (0, skB (fv 0) n26 n25, [], []) 0 p22_6 from fun h9 => absurd rfl h9), (show 0 = 0 → 0 = 0 → eiE (fv 0) n26 (0, skB (fv 0) n26 n25, [], []) sg_16 Tm_17 k25_200 from (fun _ _ => ⟨hr7, by omega, (fun h9 => absurd h9.2 (by omega)), hskb⟩)), (show 0 = 0 → p22_6 = iv 22 from fun _ => hp0_35 rfl)⟩ hP hD hS (lv_sub hl [3, 0, 4] rfl)
      have d_418 := n_nle (a := b_412) (b := 0) (by omega) (by omega) c_416
      obtain ⟨i9, hi9, hi8⟩ := hb_414.resolve_left (by omega)
      have hbk : 0 < brk sg_16 := by omega
      have hb41 : k25_200 < n26 ∧ fv 0 k25_200 = 41 := hr0.elim (fun h9 => absurd (h9.1.symm.trans c_409) (by decide)) (fun h9 => ⟨h9.1, h9.2.symm.trans c_409⟩)
      refine lv_aload_n hx hb dX9_either_158 rfl (lv_at hl 4 rfl) ?_
      refine lv_iconst (v := 1) hx hb dX9_either_159 (by decide) ?_
      have hFc := free_all hD hS hA
      refine va_callv (va_runV (As := [.int 1]) (rest := []) ⟨hx, hb, hml, hown, hts⟩ (m_joins l D h0 ad cs (upd (upd (upd (upd (upd (upd iv 21 (nI (0))) 22 p22_6) 25 (nI k25_200)) 29 (nI p_7)) 30 (nI d_8)) 31 (nI q_9)) (uF (uF fv 19 f19_10) 28 f28_11) gv n14 p_7 d_8 1 x_12 y_13 j_14 k_15 sg_16 H.size h14 rfl rfl (by omega) (by omega) hp_24 (by omega) (by omega) hpl_29 hpn_30) (cwV 1 hts gX9_either_X9_joins rfl rfl rfl (by decide +kernel) ⟨Nat.le_of_ble_eq_true rfl, Nat.le_of_ble_eq_true rfl⟩) ⟨fun a U g mk q => by obtain ⟨q0, q1, qP, qK, qD⟩ := q; exact ⟨q0, q1, qP, va_K.moved (u := U) (U := U.calling g mk a) (Vm.Alike.refl U.vm) qK, qD⟩, va_recv hK hP (ci := 9) (q0 := 0) rfl rfl, fun U hU hW => ⟨rfl, by rw [hU], by rw [hU]; exact hP, va_K.moved hW.alike hK, hD.weaken (fun _ _ _ _ => trivial)⟩⟩ rfl rfl hl.1 rfl (lv_room (Nat.le_of_ble_eq_true rfl)) dX9_either_160 ⟨Nat.le_of_ble_eq_true rfl, Nat.le_of_ble_eq_true rfl⟩) hS (fun q _ h => hFc q h) hFc (fun u t H1 locs ht hvm w_420 hB hz1 hk1 hS => ?_)
      obtain ⟨k29_421, k30_422, f19_423, gj2_424, gk2_425, q_426, q_427, q_428, q_429, q_430, q_431, q_432, q_433, q_434, q_435, hP1, hK1, hD1⟩ := hB
      replace q_426 : pil ((f28_11)) k29_421 x_12 y_13 gj2_424 gk2_425 := q_426
      replace q_430 : ∀ i : Nat, k29_421 ≤ i → i < p_7 → (f28_11) i = 1 ∨ (f28_11) i = 2 := q_430
      replace q_431 : ∀ i : Nat, i < 200 * n14 → f19_423 i = (f19_10) i := q_431
      replace q_432 : wfs ((f19_10)) (200 * n14) d_8 (j_14 + 1) → wfs f19_423 (200 * n14) k30_422 (gj2_424 + 1) := q_432
      replace q_434 : plS ((f28_11)) (jW 1 sg_16) := q_434
      rw [ht] at hP1
      have hK := va_K.moved hvm.symm hK1
      generalize H1 = H at hP1 hS ⊢
      have hP : va_P D vwCl (mw h0 ad cs (upd (upd (upd (upd (upd (upd iv 21 (nI (0))) 22 p22_6) 25 (nI k25_200)) 29 (nI k29_421)) 30 (nI k30_422)) 31 (nI q_9)) (uF (uF fv 19 f19_423) 28 f28_11) gv) H := hP1
      have hD : va_D A (mw h0 ad cs (upd (upd (upd (upd (upd (upd iv 21 (nI (0))) 22 p22_6) 25 (nI k25_200)) 29 (nI k29_421)) 30 (nI k30_422)) 31 (nI q_9)) (uF (uF fv 19 f19_423) 28 f28_11) gv) := hD1.weaken (fun _ _ _ h => hFc _ h)
      have hjl : plS f28_11 (jO sg_16) := q_434
      have hjn : k29_421 = (jO sg_16).length := q_435
      have hfr_436 : ∀ i : Nat, i < 200 * n14 → f19_423 i = fv 19 i := fun i h9 => (q_431 i h9).trans (hfr_28 i h9)
      have hw_437 := q_432 hw_188
      have hlen2 := q_426.len
      have hk1 : 1 ≤ k29_421 := (Nat.lt_or_ge i9 k29_421).elim (fun q => by omega) (fun q => absurd hi8 (nj12 (q_430 i9 q hi9)))
      obtain rfl : gk2_425 = 0 := by omega
      obtain ⟨hb_438, x_439, y_440, k_441, hxy_442, hx_443, hp_444⟩ := q_426.popB hk1
      obtain ⟨sq, eq9, lq, plq, dq⟩ := pl_cl hjl hjn hbk
      have hrq : Rch (fv 0) n26 (0, skB (fv 0) n26 n25, [], []) (1, nxF (fv 0) n26 k25_200, pN sq, (Tm_17 ++ eO sg_16) ++ eN sq) := by have h9 := hr7.st (st_close hb41 hbk); rw [eq9] at h9; exact h9
      refine lv_aload_n hx hb dX9_either_163 rfl (lv_at hl 4 rfl) ?_
      refine lv_dup hx hb dX9_either_164 rfl ?_
      refine va_get (D := D) (ci := 9) (v := .int (nI k29_421)) (C := RX9) (T := TX9) (N := 44) hx hb hts hin9 hown hK hP 0 rfl rfl 29 (by decide) (hts (.fieldLink RX9 99 "HoneyHouseModel" "piled" "I") (List.mem_of_getElem? (i := 1) rfl)) (fun _ h9 => h9) rfl dX9_either_165 ?_
      refine lv_iconst (v := 1) hx hb dX9_either_168 (by decide) ?_
      refine lv_isub hx hb dX9_either_169 ?_
      refine tp_i (y := nI (k29_421 - 1)) (pk_sub (a := k29_421) (b := 1) (by omega)) ?_
      refine va_put (D := D) (ci := 9) (v := .int (nI (k29_421 - 1))) (ty := .int) (C := RX9) (T := TX9) (N := 44) hx hb hts hin9 tyX9 tyX9_ok nmX9 hown hK hP hD hS 0 rfl rfl 29 (by decide) (hts (.fieldLink RX9 99 "HoneyHouseModel" "piled" "I") (List.mem_of_getElem? (i := 1) rfl)) (fun _ h9 => h9) rfl (tyX9_ok 29 (by decide)) rfl rfl (Nat.le_of_ble_eq_true rfl) dX9_either_170 (fun H locs hP hD hS => ?_)
      have hP : va_P D vwCl (mw h0 ad cs (upd (upd (upd (upd (upd (upd iv 21 (nI (0))) 22 p22_6) 25 (nI k25_200)) 29 (nI (k29_421 - 1))) 30 (nI k30_422)) 31 (nI q_9)) (uF (uF fv 19 f19_423) 28 f28_11) gv) H := hP
      have hD : va_D A (mw h0 ad cs (upd (upd (upd (upd (upd (upd iv 21 (nI (0))) 22 p22_6) 25 (nI k25_200)) 29 (nI (k29_421 - 1))) 30 (nI k30_422)) 31 (nI q_9)) (uF (uF fv 19 f19_423) 28 f28_11) gv) := hD
      refine lv_aload_n hx hb dX9_either_173 rfl (lv_at hl 4 rfl) ?_
      refine lv_dup hx hb dX9_either_174 rfl ?_
      refine va_get (D := D) (ci := 9) (v := .int (nI q_9)) (C := RX9) (T := TX9) (N := 44) hx hb hts hin9 hown hK hP 0 rfl rfl 31 (by decide) (hts (.fieldLink RX9 105 "HoneyHouseModel" "deep" "I") (List.mem_of_getElem? (i := 3) rfl)) (fun _ h9 => h9) rfl dX9_either_175 ?_
      refine lv_iconst (v := 1) hx hb dX9_either_178 (by decide) ?_
      refine lv_isub hx hb dX9_either_179 ?_
      refine tp_i (y := nI (q_9 - 1)) (pk_sub (a := q_9) (b := 1) (by omega)) ?_
      refine va_put (D := D) (ci := 9) (v := .int (nI (q_9 - 1))) (ty := .int) (C := RX9) (T := TX9) (N := 44) hx hb hts hin9 tyX9 tyX9_ok nmX9 hown hK hP hD hS 0 rfl rfl 31 (by decide) (hts (.fieldLink RX9 105 "HoneyHouseModel" "deep" "I") (List.mem_of_getElem? (i := 3) rfl)) (fun _ h9 => h9) rfl (tyX9_ok 31 (by decide)) rfl rfl (Nat.le_of_ble_eq_true rfl) dX9_either_180 (fun H locs hP hD hS => ?_)
      have hP : va_P D vwCl (mw h0 ad cs (upd (upd (upd (upd (upd (upd iv 21 (nI (0))) 22 p22_6) 25 (nI k25_200)) 29 (nI (k29_421 - 1))) 30 (nI k30_422)) 31 (nI (q_9 - 1))) (uF (uF fv 19 f19_423) 28 f28_11) gv) H := hP
      have hD : va_D A (mw h0 ad cs (upd (upd (upd (upd (upd (upd iv 21 (nI (0))) 22 p22_6) 25 (nI k25_200)) 29 (nI (k29_421 - 1))) 30 (nI k30_422)) 31 (nI (q_9 - 1))) (uF (uF fv 19 f19_423) 28 f28_11) gv) := hD
      refine lv_aload_n hx hb dX9_either_183 rfl (lv_at hl 4 rfl) ?_
      refine lv_dup hx hb dX9_either_184 rfl ?_
      refine va_get (D := D) (ci := 9) (v := .int (nI k25_200)) (C := RX9) (T := TX9) (N := 44) hx hb hts hin9 hown hK hP 0 rfl rfl 25 (by decide) (hts (.fieldLink RX9 87 "HoneyHouseModel" "at" "I") (List.mem_of_getElem? (i := 6) rfl)) (fun _ h9 => h9) rfl dX9_either_185 ?_
      refine lv_iconst (v := 1) hx hb dX9_either_188 (by decide) ?_
      refine lv_iadd hx hb dX9_either_189 ?_
      refine tp_i (y := nI (k25_200 + 1)) (nI_add k25_200 1) ?_
      refine va_put (D := D) (ci := 9) (v := .int (nI (k25_200 + 1))) (ty := .int) (C := RX9) (T := TX9) (N := 44) hx hb hts hin9 tyX9 tyX9_ok nmX9 hown hK hP hD hS 0 rfl rfl 25 (by decide) (hts (.fieldLink RX9 87 "HoneyHouseModel" "at" "I") (List.mem_of_getElem? (i := 6) rfl)) (fun _ h9 => h9) rfl (tyX9_ok 25 (by decide)) rfl rfl (Nat.le_of_ble_eq_true rfl) dX9_either_190 (fun H locs hP hD hS => ?_)
      have hP : va_P D vwCl (mw h0 ad cs (upd (upd (upd (upd (upd (upd iv 21 (nI (0))) 22 p22_6) 25 (nI (k25_200 + 1))) 29 (nI (k29_421 - 1))) 30 (nI k30_422)) 31 (nI (q_9 - 1))) (uF (uF fv 19 f19_423) 28 f28_11) gv) H := hP
      have hD : va_D A (mw h0 ad cs (upd (upd (upd (upd (upd (upd iv 21 (nI (0))) 22 p22_6) 25 (nI (k25_200 + 1))) 29 (nI (k29_421 - 1))) 30 (nI k30_422)) 31 (nI (q_9 - 1))) (uF (uF fv 19 f19_423) 28 f28_11) gv) := hD
      refine lv_aload_n hx hb dX9_either_193 rfl (lv_at hl 4 rfl) ?_
      have hFc := free_all hD hS hA
      refine va_callv (va_runV (As := []) (rest := []) ⟨hx, hb, hml, hown, hts⟩ (m_nots l D h0 ad cs (upd (upd (upd (upd (upd (upd iv 21 (nI (0))) 22 p22_6) 25 (nI (k25_200 + 1))) 29 (nI (k29_421 - 1))) 30 (nI k30_422)) 31 (nI (q_9 - 1))) (uF (uF fv 19 f19_423) 28 f28_11) gv n14 (k29_421 - 1) k30_422 (q_9 - 1) x_439 y_440 gj2_424 k_441 sq H.size h14 rfl rfl rfl (by omega) hp_444 (by omega) (by omega) (by omega) plq (by omega)) (cwV 0 hts gX9_either_X9_nots rfl rfl rfl (by decide +kernel) ⟨Nat.le_of_ble_eq_true rfl, Nat.le_of_ble_eq_true rfl⟩) ⟨fun a U g mk q => by obtain ⟨q0, q1, qP, qK, qD⟩ := q; exact ⟨q0, q1, qP, va_K.moved (u := U) (U := U.calling g mk a) (Vm.Alike.refl U.vm) qK, qD⟩, va_recv hK hP (ci := 9) (q0 := 0) rfl rfl, fun U hU hW => ⟨rfl, by rw [hU], by rw [hU]; exact hP, va_K.moved hW.alike hK, hD.weaken (fun _ _ _ _ => trivial)⟩⟩ rfl rfl hl.1 rfl (lv_room (Nat.le_of_ble_eq_true rfl)) dX9_either_194 ⟨Nat.le_of_ble_eq_true rfl, Nat.le_of_ble_eq_true rfl⟩) hS (fun q _ h => hFc q h) hFc (fun u t H1 locs ht hvm w_446 hB hz1 hk1 hS => ?_)
      obtain ⟨k29_447, k30_448, k31_449, f19_450, gx2_451, gk2_452, q_453, q_454, q_455, q_456, q_457, q_458, q_459, q_460, q_461, hP1, hK1, hD1⟩ := hB
      replace q_453 : pil ((f28_11)) k29_447 gx2_451 y_440 gj2_424 gk2_452 := q_453
      replace q_457 : ∀ i : Nat, i < 200 * n14 → f19_450 i = (f19_423) i := q_457
      replace q_458 : ∀ n : Nat, 1 ≤ n → wfs ((f19_423)) (200 * n14) k30_422 n → wfs f19_450 (200 * n14) k30_448 n := q_458
      replace q_459 : plS ((f28_11)) (pN sq) := q_459
      rw [ht] at hP1
      have hK := va_K.moved hvm.symm hK1
      generalize H1 = H at hP1 hS ⊢
      have hP : va_P D vwCl (mw h0 ad cs (upd (upd (upd (upd (upd (upd iv 21 (nI (0))) 22 p22_6) 25 (nI (k25_200 + 1))) 29 (nI k29_447)) 30 (nI k30_448)) 31 (nI k31_449)) (uF (uF fv 19 f19_450) 28 f28_11) gv) H := hP1
      have hD : va_D A (mw h0 ad cs (upd (upd (upd (upd (upd (upd iv 21 (nI (0))) 22 p22_6) 25 (nI (k25_200 + 1))) 29 (nI k29_447)) 30 (nI k30_448)) 31 (nI k31_449)) (uF (uF fv 19 f19_450) 28 f28_11) gv) := hD1.weaken (fun _ _ _ h => hFc _ h)
      have hfr_462 : ∀ i : Nat, i < 200 * n14 → f19_450 i = fv 19 i := fun i h9 => (q_457 i h9).trans (hfr_436 i h9)
      refine lv_goto (tgt := 202) hx hb dX9_either_197 (by decide) ?_
      refine lv_goto (tgt := 19) hx hb dX9_either_202 (by decide) ?_
      exact ih_1 (0, mo_3, k25_200 + 1, 0, p22_6, k29_447, k30_448, k31_449, f19_450, f28_11, gx2_451, y_440, gj2_424, gk2_452, pN sq, (Tm_17 ++ eO sg_16) ++ eN sq) (mw h0 ad cs (upd (upd (upd (upd (upd (upd iv 21 (nI 0)) 22 p22_6) 25 (nI (k25_200 + 1))) 29 (nI k29_447)) 30 (nI k30_448)) 31 (nI k31_449)) (uF (uF fv 19 f19_450) 28 f28_11) gv) _ _ ls (by show 2 * (n26 - (k25_200 + 1)) + mo_3 + (1 - 0) < 2 * (n26 - a_4) + mo_3 + (1 - (0)); omega) ⟨rfl, (show 0 ≤ 1 from by omega), (show mo_3 ≤ 1 from by omega), (show 1 ≤ mo_3 ∨ 0 = 0 from by omega), (show (k25_200 + 1) ≤ n26 from by omega), (show 2 * (k30_448 + gj2_424 + gx2_451) ≤ (k25_200 + 1) from by omega), (show 0 ≤ 3 from by omega), (show pil f28_11 k29_447 gx2_451 y_440 gj2_424 gk2_452 from q_453), (show k31_449 = gx2_451 + y_440 from by omega), (show gx2_451 + y_440 ≤ 6 from by omega), (show 1 ≤ 0 ∨ wfs f19_450 (200 * n14) k30_448 (gj2_424 + (1 - 0)) from Or.inr (q_458 _ (by omega) hw_437)), (show ∀ i : Nat, i < 200 * n14 → f19_450 i = fv 19 i from hfr_462), (show plS f28_11 (pN sq) from q_459), (show k29_447 = (pN sq).length from q_460), (show k31_449 = dep (pN sq) from by omega), (show 0 = 0 → mo_3 = 1 → Rch (fv 0) n26 (0, skB (fv 0) n26 n25, [], []) (1 - 0, skB (fv 0) n26 (k25_200 + 1), (pN sq), ((Tm_17 ++ eO sg_16) ++ eN sq)) from (fun _ _ => by rw [show skB (fv 0) n26 (k25_200 + 1) = nxF (fv 0) n26 k25_200 from nx_4 (wd_41 hb41).2 rfl]; exact hrq)), (show ¬ 0 = 0 → rcF (fv 0) n26 (0, skB (fv 0) n26 n25, [], []) 0 p22_6 from fun h9 => absurd rfl h9), (show mo_3 = 0 → 0 = 0 → eiE (fv 0) n26 (0, skB (fv 0) n26 n25, [], []) (pN sq) ((Tm_17 ++ eO sg_16) ++ eN sq) (k25_200 + 1) from fun h9 => by omega), (show 0 = 0 → p22_6 = iv 22 from fun _ => hp0_35 rfl)⟩ hP hD hS (lv_sub hl [2, 3, 4] rfl)
    have d_463 := n_eq (a := c_206) (b := 1) (by omega) (by omega) c_407
    obtain rfl : c_206 = 1 := by omega
    have heL : e_207 = k25_200 + 2 := by omega
    clear hc_209
    refine lv_aload_n hx hb dX9_either_105 rfl (lv_at hl 4 rfl) ?_
    refine lv_iload hx hb dX9_either_106 (lv_at hl 0 rfl) ?_
    have hFc := free_all hD hS hA
    refine va_callv (va_runV (As := [.int (nI (1))]) (rest := []) ⟨hx, hb, hml, hown, hts⟩ (m_joins l D h0 ad cs (upd (upd (upd (upd (upd (upd iv 21 (nI (0))) 22 p22_6) 25 (nI k25_200)) 29 (nI p_7)) 30 (nI d_8)) 31 (nI q_9)) (uF (uF fv 19 f19_10) 28 f28_11) gv n14 p_7 d_8 1 x_12 y_13 j_14 k_15 sg_16 H.size h14 rfl rfl (by omega) (by omega) hp_24 (by omega) (by omega) hpl_29 hpn_30) (cwV 1 hts gX9_either_X9_joins rfl rfl rfl (by decide +kernel) ⟨Nat.le_of_ble_eq_true rfl, Nat.le_of_ble_eq_true rfl⟩) ⟨fun a U g mk q => by obtain ⟨q0, q1, qP, qK, qD⟩ := q; exact ⟨q0, q1, qP, va_K.moved (u := U) (U := U.calling g mk a) (Vm.Alike.refl U.vm) qK, qD⟩, va_recv hK hP (ci := 9) (q0 := 0) rfl rfl, fun U hU hW => ⟨rfl, by rw [hU], by rw [hU]; exact hP, va_K.moved hW.alike hK, hD.weaken (fun _ _ _ _ => trivial)⟩⟩ rfl rfl hl.1 rfl (lv_room (Nat.le_of_ble_eq_true rfl)) dX9_either_108 ⟨Nat.le_of_ble_eq_true rfl, Nat.le_of_ble_eq_true rfl⟩) hS (fun q _ h => hFc q h) hFc (fun u t H1 locs ht hvm w_465 hB hz1 hk1 hS => ?_)
    obtain ⟨k29_466, k30_467, f19_468, gj2_469, gk2_470, q_471, q_472, q_473, q_474, q_475, q_476, q_477, q_478, q_479, q_480, hP1, hK1, hD1⟩ := hB
    replace q_471 : pil ((f28_11)) k29_466 x_12 y_13 gj2_469 gk2_470 := q_471
    replace q_475 : ∀ i : Nat, k29_466 ≤ i → i < p_7 → (f28_11) i = 1 ∨ (f28_11) i = 2 := q_475
    replace q_476 : ∀ i : Nat, i < 200 * n14 → f19_468 i = (f19_10) i := q_476
    replace q_477 : wfs ((f19_10)) (200 * n14) d_8 (j_14 + 1) → wfs f19_468 (200 * n14) k30_467 (gj2_469 + 1) := q_477
    replace q_479 : plS ((f28_11)) (jW 1 sg_16) := q_479
    rw [ht] at hP1
    have hK := va_K.moved hvm.symm hK1
    generalize H1 = H at hP1 hS ⊢
    have hP : va_P D vwCl (mw h0 ad cs (upd (upd (upd (upd (upd (upd iv 21 (nI (0))) 22 p22_6) 25 (nI k25_200)) 29 (nI k29_466)) 30 (nI k30_467)) 31 (nI q_9)) (uF (uF fv 19 f19_468) 28 f28_11) gv) H := hP1
    have hD : va_D A (mw h0 ad cs (upd (upd (upd (upd (upd (upd iv 21 (nI (0))) 22 p22_6) 25 (nI k25_200)) 29 (nI k29_466)) 30 (nI k30_467)) 31 (nI q_9)) (uF (uF fv 19 f19_468) 28 f28_11) gv) := hD1.weaken (fun _ _ _ h => hFc _ h)
    have hjl : plS f28_11 (jO sg_16) := q_479
    have hjn : k29_466 = (jO sg_16).length := q_480
    have hfr_481 : ∀ i : Nat, i < 200 * n14 → f19_468 i = fv 19 i := fun i h9 => (q_476 i h9).trans (hfr_28 i h9)
    have hw_482 := q_477 hw_188
    have hlen2 := q_471.len
    refine lv_aload_n hx hb dX9_either_111 rfl (lv_at hl 4 rfl) ?_
    refine va_get (D := D) (ci := 9) (v := .ref (ad 28)) (C := RX9) (T := TX9) (N := 44) hx hb hts hin9 hown hK hP 0 rfl rfl 28 (by decide) (hts (.fieldLink RX9 96 "HoneyHouseModel" "pile" "[I") (List.mem_of_getElem? (i := 5) rfl)) (fun _ h9 => h9) rfl dX9_either_112 ?_
    refine lv_aload_n hx hb dX9_either_115 rfl (lv_at hl 4 rfl) ?_
    refine va_get (D := D) (ci := 9) (v := .int (nI k29_466)) (C := RX9) (T := TX9) (N := 44) hx hb hts hin9 hown hK hP 0 rfl rfl 29 (by decide) (hts (.fieldLink RX9 99 "HoneyHouseModel" "piled" "I") (List.mem_of_getElem? (i := 1) rfl)) (fun _ h9 => h9) rfl dX9_either_116 ?_
    refine lv_iload hx hb dX9_either_119 (lv_at hl 0 rfl) ?_
    refine va_iast (f := f28_11) (n := 32) hx hb hK hP hD hS 19 18 rfl rfl (vp_in_nI (n := k29_466) (by omega) (by omega)) dX9_either_121 (fun H locs hP hD hS => ?_)
    have hP : va_P D vwCl (mw h0 ad cs (upd (upd (upd (upd (upd (upd iv 21 (nI (0))) 22 p22_6) 25 (nI k25_200)) 29 (nI k29_466)) 30 (nI k30_467)) 31 (nI q_9)) (uF (uF fv 19 f19_468) 28 (upd f28_11 (nI k29_466).toNatClampNeg (nI (1)))) gv) H := hP
    have hD : va_D A (mw h0 ad cs (upd (upd (upd (upd (upd (upd iv 21 (nI (0))) 22 p22_6) 25 (nI k25_200)) 29 (nI k29_466)) 30 (nI k30_467)) 31 (nI q_9)) (uF (uF fv 19 f19_468) 28 (upd f28_11 (nI k29_466).toNatClampNeg (nI (1)))) gv) := hD
    obtain ⟨f_483, hf_484⟩ : ∃ g9, g9 = upd f28_11 (nI k29_466).toNatClampNeg (nI (1)) := ⟨_, rfl⟩
    rw [← hf_484] at hP hD
    rw [nI_clamp (n := k29_466) (by omega)] at hf_484
    obtain rfl : gk2_470 = 0 := by omega
    have hp_485 : pil f_483 (k29_466 + 1) x_12 y_13 (gj2_469 + 1) 1 := by rw [hf_484]; exact (q_471.up _).or up_eq
    refine lv_aload_n hx hb dX9_either_122 rfl (lv_at hl 4 rfl) ?_
    refine lv_dup hx hb dX9_either_123 rfl ?_
    refine va_get (D := D) (ci := 9) (v := .int (nI k29_466)) (C := RX9) (T := TX9) (N := 44) hx hb hts hin9 hown hK hP 0 rfl rfl 29 (by decide) (hts (.fieldLink RX9 99 "HoneyHouseModel" "piled" "I") (List.mem_of_getElem? (i := 1) rfl)) (fun _ h9 => h9) rfl dX9_either_124 ?_
    refine lv_iconst (v := 1) hx hb dX9_either_127 (by decide) ?_
    refine lv_iadd hx hb dX9_either_128 ?_
    refine tp_i (y := nI (k29_466 + 1)) (nI_add k29_466 1) ?_
    refine va_put (D := D) (ci := 9) (v := .int (nI (k29_466 + 1))) (ty := .int) (C := RX9) (T := TX9) (N := 44) hx hb hts hin9 tyX9 tyX9_ok nmX9 hown hK hP hD hS 0 rfl rfl 29 (by decide) (hts (.fieldLink RX9 99 "HoneyHouseModel" "piled" "I") (List.mem_of_getElem? (i := 1) rfl)) (fun _ h9 => h9) rfl (tyX9_ok 29 (by decide)) rfl rfl (Nat.le_of_ble_eq_true rfl) dX9_either_129 (fun H locs hP hD hS => ?_)
    have hP : va_P D vwCl (mw h0 ad cs (upd (upd (upd (upd (upd (upd iv 21 (nI (0))) 22 p22_6) 25 (nI k25_200)) 29 (nI (k29_466 + 1))) 30 (nI k30_467)) 31 (nI q_9)) (uF (uF fv 19 f19_468) 28 f_483) gv) H := hP
    have hD : va_D A (mw h0 ad cs (upd (upd (upd (upd (upd (upd iv 21 (nI (0))) 22 p22_6) 25 (nI k25_200)) 29 (nI (k29_466 + 1))) 30 (nI k30_467)) 31 (nI q_9)) (uF (uF fv 19 f19_468) 28 f_483) gv) := hD
    refine lv_aload_n hx hb dX9_either_132 rfl (lv_at hl 4 rfl) ?_
    refine lv_aload_n hx hb dX9_either_133 rfl (lv_at hl 4 rfl) ?_
    refine vp_callSi (W.runV (As := []) (rest := [.ref h0]) ⟨hx, hb, hml, hown, hts⟩ (m_wordEnd l D h0 ad cs (upd (upd (upd (upd (upd (upd iv 21 (nI (0))) 22 p22_6) 25 (nI k25_200)) 29 (nI (k29_466 + 1))) 30 (nI k30_467)) 31 (nI q_9)) (uF (uF fv 19 f19_468) 28 f_483) gv k25_200 n26  rfl h26 (by omega) (by omega)) (cwV 0 hts gX9_either_X9_wordEnd rfl rfl rfl (by decide +kernel) ⟨Nat.le_of_ble_eq_true rfl, Nat.le_of_ble_eq_true rfl⟩) ⟨fun a U g mk q => ⟨q.1, q.2.1, va_K.moved (u := U) (U := U.calling g mk a) (Vm.Alike.refl U.vm) q.2.2⟩, va_recv hK hP (ci := 9) (q0 := 0) rfl rfl, fun U hU hW => ⟨rfl, by rw [hU]; exact hP, va_K.moved hW.alike hK⟩⟩ rfl rfl hl.1 rfl (lv_room (Nat.le_of_ble_eq_true rfl)) dX9_either_134 ⟨Nat.le_of_ble_eq_true rfl, Nat.le_of_ble_eq_true rfl⟩) (fun r_486 k_487 => ?_)
    obtain ⟨e_488, rfl, he_489⟩ := k_487
    have hq_e_488 : e_488 = e_207 := he_489.uq he_208
    refine va_put (D := D) (ci := 9) (v := .int (nI e_488)) (ty := .int) (C := RX9) (T := TX9) (N := 44) hx hb hts hin9 tyX9 tyX9_ok nmX9 hown hK hP hD hS 0 rfl rfl 25 (by decide) (hts (.fieldLink RX9 87 "HoneyHouseModel" "at" "I") (List.mem_of_getElem? (i := 6) rfl)) (fun _ h9 => h9) rfl (tyX9_ok 25 (by decide)) rfl rfl (Nat.le_of_ble_eq_true rfl) dX9_either_137 (fun H locs hP hD hS => ?_)
    have hP : va_P D vwCl (mw h0 ad cs (upd (upd (upd (upd (upd (upd iv 21 (nI (0))) 22 p22_6) 25 (nI e_488)) 29 (nI (k29_466 + 1))) 30 (nI k30_467)) 31 (nI q_9)) (uF (uF fv 19 f19_468) 28 f_483) gv) H := hP
    have hD : va_D A (mw h0 ad cs (upd (upd (upd (upd (upd (upd iv 21 (nI (0))) 22 p22_6) 25 (nI e_488)) 29 (nI (k29_466 + 1))) 30 (nI k30_467)) 31 (nI q_9)) (uF (uF fv 19 f19_468) 28 f_483) gv) := hD
    have hwj : wdE (fv 0) n26 k25_200 = 1 := by omega
    refine lv_iconst (v := 1) hx hb dX9_either_140 (by decide) ?_
    refine lv_istore_n (lv' := [(1, .int 1), (4, .int (nI (1))), (3, .int r_189), (2, .int (nI mo_3)), (0, .ref h0)]) hx hb dX9_either_141 rfl hl (by decide) rfl (fun ls hl => ?_)
    refine lv_goto (tgt := 202) hx hb dX9_either_142 (by decide) ?_
    refine lv_goto (tgt := 19) hx hb dX9_either_202 (by decide) ?_
    exact ih_1 (1, mo_3, e_488, 0, p22_6, k29_466 + 1, k30_467, q_9, f19_468, f_483, x_12, y_13, gj2_469 + 1, 1, 1 :: jO sg_16, Tm_17 ++ eO sg_16) (mw h0 ad cs (upd (upd (upd (upd (upd (upd iv 21 (nI 0)) 22 p22_6) 25 (nI e_488)) 29 (nI (k29_466 + 1))) 30 (nI k30_467)) 31 (nI q_9)) (uF (uF fv 19 f19_468) 28 f_483) gv) _ _ ls (by show 2 * (n26 - e_488) + mo_3 + (1 - 0) < 2 * (n26 - a_4) + mo_3 + (1 - (0)); omega) ⟨rfl, (show 1 ≤ 1 from by omega), (show mo_3 ≤ 1 from by omega), (show 1 ≤ mo_3 ∨ 1 = 0 from by omega), (show e_488 ≤ n26 from by omega), (show 2 * (k30_467 + (gj2_469 + 1) + x_12) ≤ e_488 from by omega), (show 0 ≤ 3 from by omega), (show pil f_483 (k29_466 + 1) x_12 y_13 (gj2_469 + 1) 1 from hp_485), (show q_9 = x_12 + y_13 from by omega), (show x_12 + y_13 ≤ 6 from by omega), (show 1 ≤ 0 ∨ wfs f19_468 (200 * n14) k30_467 ((gj2_469 + 1) + (1 - 1)) from Or.inr hw_482), (show ∀ i : Nat, i < 200 * n14 → f19_468 i = fv 19 i from hfr_481), (show plS f_483 (1 :: jO sg_16) from (by rw [hf_484]; exact hjl.push hjn (by omega) rfl)), (show (k29_466 + 1) = (1 :: jO sg_16).length from (by rw [List.length_cons]; omega)), (show q_9 = dep (1 :: jO sg_16) from (by rw [dep_n _ (by omega), dep_jO]; omega)), (show 0 = 0 → mo_3 = 1 → Rch (fv 0) n26 (0, skB (fv 0) n26 n25, [], []) (1 - 1, skB (fv 0) n26 e_488, (1 :: jO sg_16), (Tm_17 ++ eO sg_16)) from (fun _ _ => by rw [show skB (fv 0) n26 e_488 = nxF (fv 0) n26 k25_200 from nx_e (by omega) hwj (he_208.r.trans (by omega))]; exact hr7.st (st_or hwj))), (show ¬ 0 = 0 → rcF (fv 0) n26 (0, skB (fv 0) n26 n25, [], []) 0 p22_6 from fun h9 => absurd rfl h9), (show mo_3 = 0 → 0 = 0 → eiE (fv 0) n26 (0, skB (fv 0) n26 n25, [], []) (1 :: jO sg_16) (Tm_17 ++ eO sg_16) e_488 from fun h9 => by omega), (show 0 = 0 → p22_6 = iv 22 from fun _ => hp0_35 rfl)⟩ hP hD hS (lv_sub hl [0, 3, 4] rfl)
  have d_490 := n_ne (a := du_2) (b := 0) (by omega) (by omega) c_375
  obtain rfl : du_2 = 1 := by omega
  have hr7 : Rch (fv 0) n26 (0, skB (fv 0) n26 n25, [], []) (0, k25_200, sg_16, Tm_17) := hr8
  refine lv_iload_n hx hb dX9_either_45 rfl (lv_at hl 1 rfl) ?_
  refine lv_bipush (v := 40) hx hb dX9_either_46 (by decide) ?_
  refine lv_icmp_eq (tgt := 57) hx hb dX9_either_48 (by decide) (fun c_491 => ?_) (fun c_491 => ?_)
  · have hlt40 : k25_191 < n26 := q_196.elim (fun h9 => absurd (h9.1.symm.trans c_491) (by decide)) (fun h9 => h9.1)
    refine lv_aload_n hx hb dX9_either_57 rfl (lv_at hl 4 rfl) ?_
    refine lv_iload_n hx hb dX9_either_58 rfl (lv_at hl 1 rfl) ?_
    refine lv_bipush (v := 40) hx hb dX9_either_59 (by decide) ?_
    refine lv_icmp_ne (tgt := 69) hx hb dX9_either_61 (by decide) (fun c_492 => absurd (c_491) c_492) (fun c_492 => ?_)
    refine lv_bipush (v := 12) hx hb dX9_either_64 (by decide) ?_
    refine lv_goto (tgt := 70) hx hb dX9_either_66 (by decide) ?_
    have hFc := free_all hD hS hA
    refine va_callv (va_runV (As := [.int 12]) (rest := []) ⟨hx, hb, hml, hown, hts⟩ (m_opens l D h0 ad cs (upd (upd (upd (upd (upd (upd iv 21 (nI (0))) 22 p22_6) 25 (nI k25_200)) 29 (nI p_7)) 30 (nI d_8)) 31 (nI q_9)) (uF (uF fv 19 f19_10) 28 f28_11) gv 0 k25_200 n26 p_7 q_9 12 x_12 y_13 j_14 k_15 sg_16 H.size rfl rfl h26 rfl rfl (by omega) (by omega) (by omega) hp_24 (by omega) (by omega) (Or.inl ⟨rfl, by omega⟩) hpl_29 hpn_30) (cwV 1 hts gX9_either_X9_opens rfl rfl rfl (by decide +kernel) ⟨Nat.le_of_ble_eq_true rfl, Nat.le_of_ble_eq_true rfl⟩) ⟨fun a U g mk q => by obtain ⟨q0, q1, qP, qK, qD⟩ := q; exact ⟨q0, q1, qP, va_K.moved (u := U) (U := U.calling g mk a) (Vm.Alike.refl U.vm) qK, qD⟩, va_recv hK hP (ci := 9) (q0 := 0) rfl rfl, fun U hU hW => ⟨rfl, by rw [hU], by rw [hU]; exact hP, va_K.moved hW.alike hK, hD.weaken (fun _ _ _ _ => trivial)⟩⟩ rfl rfl hl.1 rfl (lv_room (Nat.le_of_ble_eq_true rfl)) dX9_either_70 ⟨Nat.le_of_ble_eq_true rfl, Nat.le_of_ble_eq_true rfl⟩) hS (fun q _ h => hFc q h) hFc (fun u t H1 locs ht hvm w_494 hB hz1 hk1 hS => ?_)
    obtain ⟨k21_495, p22_496, k25_497, k29_498, k31_499, f28_500, q_501, q_502, q_503, q_504, hP1, hK1, hD1⟩ := hB
    replace q_502 : (1 ≤ k21_495 ∧ k25_497 = k25_200 ∧ k29_498 = p_7 ∧ k31_499 = q_9 ∧ f28_500 = (f28_11)) ∨ (k21_495 = 0 ∧ k25_200 + 1 ≤ k25_497 ∧ k25_497 ≤ n26 ∧ k31_499 = q_9 + 1 ∧ q_9 ≤ 5 ∧ ∃ x y : Nat, x + y = x_12 + y_13 + 1 ∧ (x = x_12 ∨ (x = x_12 + 1 ∧ k25_200 + 3 ≤ k25_497)) ∧ pil f28_500 k29_498 x y j_14 0) := q_502
    replace q_504 : k21_495 = 0 → p22_496 = (p22_6) := q_504
    rw [ht] at hP1
    have hK := va_K.moved hvm.symm hK1
    generalize H1 = H at hP1 hS ⊢
    have hP : va_P D vwCl (mw h0 ad cs (upd (upd (upd (upd (upd (upd iv 21 (nI k21_495)) 22 p22_496) 25 (nI k25_497)) 29 (nI k29_498)) 30 (nI d_8)) 31 (nI k31_499)) (uF (uF fv 19 f19_10) 28 f28_500) gv) H := hP1
    have hD : va_D A (mw h0 ad cs (upd (upd (upd (upd (upd (upd iv 21 (nI k21_495)) 22 p22_496) 25 (nI k25_497)) 29 (nI k29_498)) 30 (nI d_8)) 31 (nI k31_499)) (uF (uF fv 19 f19_10) 28 f28_500) gv) := hD1.weaken (fun _ _ _ h => hFc _ h)
    have hb40 : k25_200 < n26 ∧ fv 0 k25_200 = 40 := hr0.elim (fun h9 => absurd (h9.1.symm.trans c_491) (by decide)) (fun h9 => ⟨h9.1, h9.2.symm.trans c_491⟩)
    clear hc_209
    rcases q_502 with ⟨hpos_505, e25_506, e29_507, e31_508, e28_509⟩ | ⟨rfl, h1_510, h2_511, h3_512, h5_513, x_514, y_515, hxy_516, hx3_517, hp_518⟩
    · obtain ⟨g_519, g_520, g_521⟩ := q_503.resolve_right (fun h9 => by omega)
      refine lv_goto (tgt := 202) hx hb dX9_either_73 (by decide) ?_
      refine lv_goto (tgt := 19) hx hb dX9_either_202 (by decide) ?_
      exact ih_1 (1, mo_3, k25_497, k21_495, p22_496, k29_498, d_8, k31_499, f19_10, f28_500, x_12, y_13, j_14, k_15, sg_16, Tm_17) (mw h0 ad cs (upd (upd (upd (upd (upd (upd iv 21 (nI k21_495)) 22 p22_496) 25 (nI k25_497)) 29 (nI k29_498)) 30 (nI d_8)) 31 (nI k31_499)) (uF (uF fv 19 f19_10) 28 f28_500) gv) _ _ ls (by show 2 * (n26 - k25_497) + mo_3 + (1 - k21_495) < 2 * (n26 - a_4) + mo_3 + (1 - (0)); omega) ⟨rfl, (show 1 ≤ 1 from by omega), (show mo_3 ≤ 1 from by omega), (show 1 ≤ mo_3 ∨ 1 = 0 from by omega), (show k25_497 ≤ n26 from by omega), (show 2 * (d_8 + j_14 + x_12) ≤ k25_497 from by omega), (show k21_495 ≤ 3 from by omega), (show pil f28_500 k29_498 x_12 y_13 j_14 k_15 from (by rw [e28_509, e29_507]; exact hp_24)), (show k31_499 = x_12 + y_13 from by omega), (show x_12 + y_13 ≤ 6 from by omega), (show 1 ≤ k21_495 ∨ wfs f19_10 (200 * n14) d_8 (j_14 + (1 - 1)) from Or.inl (by omega)), (show ∀ i : Nat, i < 200 * n14 → f19_10 i = fv 19 i from hfr_28), (show plS f28_500 sg_16 from (by rw [e28_509]; exact hpl_29)), (show k29_498 = sg_16.length from (by omega)), (show k31_499 = dep sg_16 from by omega), (show k21_495 = 0 → mo_3 = 1 → Rch (fv 0) n26 (0, skB (fv 0) n26 n25, [], []) (1 - 1, skB (fv 0) n26 k25_497, sg_16, Tm_17) from fun h9 _ => absurd h9 (by omega)), (show ¬ k21_495 = 0 → rcF (fv 0) n26 (0, skB (fv 0) n26 n25, [], []) k21_495 p22_496 from fun _ => ⟨k25_200, g_521, by rw [g_520]; exact hr7.st (st_deep (Or.inl hb40) (by omega))⟩), (show mo_3 = 0 → k21_495 = 0 → eiE (fv 0) n26 (0, skB (fv 0) n26 n25, [], []) sg_16 Tm_17 k25_497 from fun h9 => by omega), (show k21_495 = 0 → p22_496 = iv 22 from fun h9 => absurd h9 (by omega))⟩ hP hD hS (lv_sub hl [2, 3, 4] rfl)
    obtain ⟨g_522, -, g_523, g_524, g_525⟩ := q_503.resolve_left (fun h9 => by omega)
    refine lv_goto (tgt := 202) hx hb dX9_either_73 (by decide) ?_
    refine lv_goto (tgt := 19) hx hb dX9_either_202 (by decide) ?_
    exact ih_1 (1, mo_3, k25_497, 0, p22_496, k29_498, d_8, k31_499, f19_10, f28_500, x_514, y_515, j_14, 0, 12 :: sg_16, Tm_17) (mw h0 ad cs (upd (upd (upd (upd (upd (upd iv 21 (nI 0)) 22 p22_496) 25 (nI k25_497)) 29 (nI k29_498)) 30 (nI d_8)) 31 (nI k31_499)) (uF (uF fv 19 f19_10) 28 f28_500) gv) _ _ ls (by show 2 * (n26 - k25_497) + mo_3 + (1 - 0) < 2 * (n26 - a_4) + mo_3 + (1 - (0)); omega) ⟨rfl, (show 1 ≤ 1 from by omega), (show mo_3 ≤ 1 from by omega), (show 1 ≤ mo_3 ∨ 1 = 0 from by omega), (show k25_497 ≤ n26 from by omega), (show 2 * (d_8 + j_14 + x_514) ≤ k25_497 from by omega), (show 0 ≤ 3 from by omega), (show pil f28_500 k29_498 x_514 y_515 j_14 0 from hp_518), (show k31_499 = x_514 + y_515 from by omega), (show x_514 + y_515 ≤ 6 from by omega), (show 1 ≤ 0 ∨ wfs f19_10 (200 * n14) d_8 (j_14 + (1 - 1)) from Or.inr hw_188), (show ∀ i : Nat, i < 200 * n14 → f19_10 i = fv 19 i from hfr_28), (show plS f28_500 (12 :: sg_16) from g_523), (show k29_498 = (12 :: sg_16).length from (by rw [List.length_cons]; omega)), (show k31_499 = dep (12 :: sg_16) from (by rw [dep_y _ (by omega)]; omega)), (show 0 = 0 → mo_3 = 1 → Rch (fv 0) n26 (0, skB (fv 0) n26 n25, [], []) (1 - 1, skB (fv 0) n26 k25_497, (12 :: sg_16), Tm_17) from (fun _ _ => by rw [show skB (fv 0) n26 k25_497 = nxF (fv 0) n26 k25_200 from nx_4 (wd_40 hb40).2 (by omega)]; exact hr7.st (st_open hb40 (by omega)))), (show ¬ 0 = 0 → rcF (fv 0) n26 (0, skB (fv 0) n26 n25, [], []) 0 p22_496 from fun h9 => absurd rfl h9), (show mo_3 = 0 → 0 = 0 → eiE (fv 0) n26 (0, skB (fv 0) n26 n25, [], []) (12 :: sg_16) Tm_17 k25_497 from fun h9 => by omega), (show 0 = 0 → p22_496 = iv 22 from fun _ => (q_504 rfl).trans (hp0_35 rfl))⟩ hP hD hS (lv_sub hl [2, 3, 4] rfl)
  refine lv_iload hx hb dX9_either_51 (lv_at hl 0 rfl) ?_
  refine lv_iconst (v := 3) hx hb dX9_either_53 (by decide) ?_
  refine lv_icmp_ne (tgt := 76) hx hb dX9_either_54 (by decide) (fun c_526 => ?_) (fun c_526 => ?_)
  · have d_527 := n_ne (a := c_206) (b := 3) (by omega) (by omega) c_526
    refine lv_iload_n hx hb dX9_either_76 rfl (lv_at hl 2 rfl) ?_
    refine lv_if_eq (tgt := 93) hx hb dX9_either_77 (by decide) (fun c_528 => absurd c_528 (by decide)) (fun c_528 => ?_)
    clear hc_209
    refine lv_aload_n hx hb dX9_either_80 rfl (lv_at hl 4 rfl) ?_
    have hFc := free_all hD hS hA
    refine va_callv (va_runV (As := []) (rest := []) ⟨hx, hb, hml, hown, hts⟩ (m_test_ l D h0 ad cs (upd (upd (upd (upd (upd (upd iv 21 (nI (0))) 22 p22_6) 25 (nI k25_200)) 29 (nI p_7)) 30 (nI d_8)) 31 (nI q_9)) (uF (uF fv 19 f19_10) 28 f28_11) gv n14 0 k25_200 n26 d_8  H.size h14 rfl rfl h26 rfl (by omega) (by omega) (by omega) (by omega) (by omega)) (cwV 0 hts gX9_either_X9_test_ rfl rfl rfl (by decide +kernel) ⟨Nat.le_of_ble_eq_true rfl, Nat.le_of_ble_eq_true rfl⟩) ⟨fun a U g mk q => by obtain ⟨q0, q1, qP, qK, qD⟩ := q; exact ⟨q0, q1, qP, va_K.moved (u := U) (U := U.calling g mk a) (Vm.Alike.refl U.vm) qK, qD⟩, va_recv hK hP (ci := 9) (q0 := 0) rfl rfl, fun U hU hW => ⟨rfl, by rw [hU], by rw [hU]; exact hP, va_K.moved hW.alike hK, hD.weaken (fun _ _ _ _ => trivial)⟩⟩ rfl rfl hl.1 rfl (lv_room (Nat.le_of_ble_eq_true rfl)) dX9_either_81 ⟨Nat.le_of_ble_eq_true rfl, Nat.le_of_ble_eq_true rfl⟩) hS (fun q _ h => hFc q h) hFc (fun u t H1 locs ht hvm w_530 hB hz1 hk1 hS => ?_)
    obtain ⟨k21_531, p22_532, k25_533, k30_534, f19_535, q_536, q_537, q_538, q_539, q_540, q_541, hP1, hK1, hD1⟩ := hB
    replace q_539 : (1 ≤ k21_531 ∧ k30_534 = d_8 ∧ f19_535 = (f19_10)) ∨ (k21_531 = 0 ∧ k30_534 = d_8 + 4 ∧ k25_200 + 8 ≤ k25_533 ∧ (∀ i : Nat, i < 200 * n14 + d_8 → f19_535 i = (f19_10) i) ∧ f19_535 (200 * n14 + d_8) = 13 ∧ okT (f19_535 (200 * n14 + (d_8 + 1)))) := q_539
    replace q_540 : TSX ((fv 0)) n26 (skB ((fv 0)) n26 k25_200) k21_531 p22_532 k25_533 := q_540
    replace q_541 : k21_531 = 0 → p22_532 = (p22_6) := q_541
    rw [ht] at hP1
    have hK := va_K.moved hvm.symm hK1
    generalize H1 = H at hP1 hS ⊢
    have hP : va_P D vwCl (mw h0 ad cs (upd (upd (upd (upd (upd (upd iv 21 (nI k21_531)) 22 p22_532) 25 (nI k25_533)) 29 (nI p_7)) 30 (nI k30_534)) 31 (nI q_9)) (uF (uF fv 19 f19_535) 28 f28_11) gv) H := hP1
    have hD : va_D A (mw h0 ad cs (upd (upd (upd (upd (upd (upd iv 21 (nI k21_531)) 22 p22_532) 25 (nI k25_533)) 29 (nI p_7)) 30 (nI k30_534)) 31 (nI q_9)) (uF (uF fv 19 f19_535) 28 f28_11) gv) := hD1.weaken (fun _ _ _ h => hFc _ h)
    have hno : ¬ ((k25_200 < n26 ∧ fv 0 k25_200 = 40) ∨ wdE (fv 0) n26 k25_200 = 3) := fun h9 => h9.elim (fun q9 => hr0.elim (fun z9 => by omega) (fun z9 => c_491 (z9.2.trans q9.2))) (fun q9 => by omega)
    obtain ⟨P_549, w_550, m_551, v_552, ht_553, h_554, h_555⟩ : TSX (fv 0) n26 k25_200 k21_531 p22_532 k25_533 := by rw [← hskb]; exact q_540
    rcases q_539 with ⟨hpos_542, e30_543, e19_544⟩ | ⟨rfl, e30_543, h8_545, hfr_546, h13_547, hok_548⟩
    · have hfr_556 : ∀ i : Nat, i < 200 * n14 → f19_535 i = fv 19 i := fun i h9 => by rw [e19_544]; exact hfr_28 i h9
      refine lv_aload_n hx hb dX9_either_84 rfl (lv_at hl 4 rfl) ?_
      have hFc := free_all hD hS hA
      refine va_callv (va_runV (As := []) (rest := []) ⟨hx, hb, hml, hown, hts⟩ (m_nots l D h0 ad cs (upd (upd (upd (upd (upd (upd iv 21 (nI k21_531)) 22 p22_532) 25 (nI k25_533)) 29 (nI p_7)) 30 (nI k30_534)) 31 (nI q_9)) (uF (uF fv 19 f19_535) 28 f28_11) gv n14 p_7 k30_534 q_9 x_12 y_13 j_14 k_15 sg_16 H.size h14 rfl rfl rfl (by omega) hp_24 (by omega) (by omega) (by omega) hpl_29 hpn_30) (cwV 0 hts gX9_either_X9_nots rfl rfl rfl (by decide +kernel) ⟨Nat.le_of_ble_eq_true rfl, Nat.le_of_ble_eq_true rfl⟩) ⟨fun a U g mk q => by obtain ⟨q0, q1, qP, qK, qD⟩ := q; exact ⟨q0, q1, qP, va_K.moved (u := U) (U := U.calling g mk a) (Vm.Alike.refl U.vm) qK, qD⟩, va_recv hK hP (ci := 9) (q0 := 0) rfl rfl, fun U hU hW => ⟨rfl, by rw [hU], by rw [hU]; exact hP, va_K.moved hW.alike hK, hD.weaken (fun _ _ _ _ => trivial)⟩⟩ rfl rfl hl.1 rfl (lv_room (Nat.le_of_ble_eq_true rfl)) dX9_either_85 ⟨Nat.le_of_ble_eq_true rfl, Nat.le_of_ble_eq_true rfl⟩) hS (fun q _ h => hFc q h) hFc (fun u t H1 locs ht hvm w_558 hB hz1 hk1 hS => ?_)
      obtain ⟨k29_559, k30_560, k31_561, f19_562, gx2_563, gk2_564, q_565, q_566, q_567, q_568, q_569, q_570, q_571, q_572, q_573, hP1, hK1, hD1⟩ := hB
      replace q_565 : pil ((f28_11)) k29_559 gx2_563 y_13 j_14 gk2_564 := q_565
      replace q_569 : ∀ i : Nat, i < 200 * n14 → f19_562 i = (f19_535) i := q_569
      replace q_570 : ∀ n : Nat, 1 ≤ n → wfs ((f19_535)) (200 * n14) k30_534 n → wfs f19_562 (200 * n14) k30_560 n := q_570
      replace q_571 : plS ((f28_11)) (pN sg_16) := q_571
      rw [ht] at hP1
      have hK := va_K.moved hvm.symm hK1
      generalize H1 = H at hP1 hS ⊢
      have hP : va_P D vwCl (mw h0 ad cs (upd (upd (upd (upd (upd (upd iv 21 (nI k21_531)) 22 p22_532) 25 (nI k25_533)) 29 (nI k29_559)) 30 (nI k30_560)) 31 (nI k31_561)) (uF (uF fv 19 f19_562) 28 f28_11) gv) H := hP1
      have hD : va_D A (mw h0 ad cs (upd (upd (upd (upd (upd (upd iv 21 (nI k21_531)) 22 p22_532) 25 (nI k25_533)) 29 (nI k29_559)) 30 (nI k30_560)) 31 (nI k31_561)) (uF (uF fv 19 f19_562) 28 f28_11) gv) := hD1.weaken (fun _ _ _ h => hFc _ h)
      have hfr_574 : ∀ i : Nat, i < 200 * n14 → f19_562 i = fv 19 i := fun i h9 => (q_569 i h9).trans (hfr_556 i h9)
      refine lv_iconst (v := 0) hx hb dX9_either_88 (by decide) ?_
      refine lv_istore_n (lv' := [(1, .int 0), (4, .int (nI c_206)), (3, .int r_189), (2, .int (nI mo_3)), (0, .ref h0)]) hx hb dX9_either_89 rfl hl (by decide) rfl (fun ls hl => ?_)
      refine lv_goto (tgt := 202) hx hb dX9_either_90 (by decide) ?_
      refine lv_goto (tgt := 19) hx hb dX9_either_202 (by decide) ?_
      exact ih_1 (0, mo_3, k25_533, k21_531, p22_532, k29_559, k30_560, k31_561, f19_562, f28_11, gx2_563, y_13, j_14, gk2_564, pN sg_16, Tm_17) (mw h0 ad cs (upd (upd (upd (upd (upd (upd iv 21 (nI k21_531)) 22 p22_532) 25 (nI k25_533)) 29 (nI k29_559)) 30 (nI k30_560)) 31 (nI k31_561)) (uF (uF fv 19 f19_562) 28 f28_11) gv) _ _ ls (by show 2 * (n26 - k25_533) + mo_3 + (1 - k21_531) < 2 * (n26 - a_4) + mo_3 + (1 - (0)); omega) ⟨rfl, (show 0 ≤ 1 from by omega), (show mo_3 ≤ 1 from by omega), (show 1 ≤ mo_3 ∨ 0 = 0 from by omega), (show k25_533 ≤ n26 from by omega), (show 2 * (k30_560 + j_14 + gx2_563) ≤ k25_533 from by omega), (show k21_531 ≤ 3 from by omega), (show pil f28_11 k29_559 gx2_563 y_13 j_14 gk2_564 from q_565), (show k31_561 = gx2_563 + y_13 from by omega), (show gx2_563 + y_13 ≤ 6 from by omega), (show 1 ≤ k21_531 ∨ wfs f19_562 (200 * n14) k30_560 (j_14 + (1 - 0)) from Or.inl (by omega)), (show ∀ i : Nat, i < 200 * n14 → f19_562 i = fv 19 i from hfr_574), (show plS f28_11 (pN sg_16) from q_571), (show k29_559 = (pN sg_16).length from q_572), (show k31_561 = dep (pN sg_16) from by omega), (show k21_531 = 0 → mo_3 = 1 → Rch (fv 0) n26 (0, skB (fv 0) n26 n25, [], []) (1 - 0, skB (fv 0) n26 k25_533, (pN sg_16), Tm_17) from fun h9 _ => absurd h9 (by omega)), (show ¬ k21_531 = 0 → rcF (fv 0) n26 (0, skB (fv 0) n26 n25, [], []) k21_531 p22_532 from fun _ => ⟨P_549, h_555 (by omega), hr7.st (st_tf hno ht_553 (by omega))⟩), (show mo_3 = 0 → k21_531 = 0 → eiE (fv 0) n26 (0, skB (fv 0) n26 n25, [], []) (pN sg_16) Tm_17 k25_533 from fun h9 => by omega), (show k21_531 = 0 → p22_532 = iv 22 from fun h9 => absurd h9 (by omega))⟩ hP hD hS (lv_sub hl [0, 3, 4] rfl)
    have hw_575 : wfs f19_535 (200 * n14) k30_534 (j_14 + 1) := by rw [e30_543]; exact (hw_188).tei hfr_546 h13_547 hok_548
    have hfr_576 : ∀ i : Nat, i < 200 * n14 → f19_535 i = fv 19 i := fun i h9 => (hfr_546 i (by omega)).trans (hfr_28 i h9)
    refine lv_aload_n hx hb dX9_either_84 rfl (lv_at hl 4 rfl) ?_
    have hFc := free_all hD hS hA
    refine va_callv (va_runV (As := []) (rest := []) ⟨hx, hb, hml, hown, hts⟩ (m_nots l D h0 ad cs (upd (upd (upd (upd (upd (upd iv 21 (nI 0)) 22 p22_532) 25 (nI k25_533)) 29 (nI p_7)) 30 (nI k30_534)) 31 (nI q_9)) (uF (uF fv 19 f19_535) 28 f28_11) gv n14 p_7 k30_534 q_9 x_12 y_13 j_14 k_15 sg_16 H.size h14 rfl rfl rfl (by omega) hp_24 (by omega) (by omega) (by omega) hpl_29 hpn_30) (cwV 0 hts gX9_either_X9_nots rfl rfl rfl (by decide +kernel) ⟨Nat.le_of_ble_eq_true rfl, Nat.le_of_ble_eq_true rfl⟩) ⟨fun a U g mk q => by obtain ⟨q0, q1, qP, qK, qD⟩ := q; exact ⟨q0, q1, qP, va_K.moved (u := U) (U := U.calling g mk a) (Vm.Alike.refl U.vm) qK, qD⟩, va_recv hK hP (ci := 9) (q0 := 0) rfl rfl, fun U hU hW => ⟨rfl, by rw [hU], by rw [hU]; exact hP, va_K.moved hW.alike hK, hD.weaken (fun _ _ _ _ => trivial)⟩⟩ rfl rfl hl.1 rfl (lv_room (Nat.le_of_ble_eq_true rfl)) dX9_either_85 ⟨Nat.le_of_ble_eq_true rfl, Nat.le_of_ble_eq_true rfl⟩) hS (fun q _ h => hFc q h) hFc (fun u t H1 locs ht hvm w_578 hB hz1 hk1 hS => ?_)
    obtain ⟨k29_579, k30_580, k31_581, f19_582, gx2_583, gk2_584, q_585, q_586, q_587, q_588, q_589, q_590, q_591, q_592, q_593, hP1, hK1, hD1⟩ := hB
    replace q_585 : pil ((f28_11)) k29_579 gx2_583 y_13 j_14 gk2_584 := q_585
    replace q_589 : ∀ i : Nat, i < 200 * n14 → f19_582 i = (f19_535) i := q_589
    replace q_590 : ∀ n : Nat, 1 ≤ n → wfs ((f19_535)) (200 * n14) k30_534 n → wfs f19_582 (200 * n14) k30_580 n := q_590
    replace q_591 : plS ((f28_11)) (pN sg_16) := q_591
    rw [ht] at hP1
    have hK := va_K.moved hvm.symm hK1
    generalize H1 = H at hP1 hS ⊢
    have hP : va_P D vwCl (mw h0 ad cs (upd (upd (upd (upd (upd (upd iv 21 (nI 0)) 22 p22_532) 25 (nI k25_533)) 29 (nI k29_579)) 30 (nI k30_580)) 31 (nI k31_581)) (uF (uF fv 19 f19_582) 28 f28_11) gv) H := hP1
    have hD : va_D A (mw h0 ad cs (upd (upd (upd (upd (upd (upd iv 21 (nI 0)) 22 p22_532) 25 (nI k25_533)) 29 (nI k29_579)) 30 (nI k30_580)) 31 (nI k31_581)) (uF (uF fv 19 f19_582) 28 f28_11) gv) := hD1.weaken (fun _ _ _ h => hFc _ h)
    have hfr_594 : ∀ i : Nat, i < 200 * n14 → f19_582 i = fv 19 i := fun i h9 => (q_589 i h9).trans (hfr_576 i h9)
    refine lv_iconst (v := 0) hx hb dX9_either_88 (by decide) ?_
    refine lv_istore_n (lv' := [(1, .int 0), (4, .int (nI c_206)), (3, .int r_189), (2, .int (nI mo_3)), (0, .ref h0)]) hx hb dX9_either_89 rfl hl (by decide) rfl (fun ls hl => ?_)
    refine lv_goto (tgt := 202) hx hb dX9_either_90 (by decide) ?_
    refine lv_goto (tgt := 19) hx hb dX9_either_202 (by decide) ?_
    exact ih_1 (0, mo_3, k25_533, 0, p22_532, k29_579, k30_580, k31_581, f19_582, f28_11, gx2_583, y_13, j_14, gk2_584, pN sg_16, (Tm_17 ++ [(13, w_550, m_551, v_552)]) ++ eN sg_16) (mw h0 ad cs (upd (upd (upd (upd (upd (upd iv 21 (nI 0)) 22 p22_532) 25 (nI k25_533)) 29 (nI k29_579)) 30 (nI k30_580)) 31 (nI k31_581)) (uF (uF fv 19 f19_582) 28 f28_11) gv) _ _ ls (by show 2 * (n26 - k25_533) + mo_3 + (1 - 0) < 2 * (n26 - a_4) + mo_3 + (1 - (0)); omega) ⟨rfl, (show 0 ≤ 1 from by omega), (show mo_3 ≤ 1 from by omega), (show 1 ≤ mo_3 ∨ 0 = 0 from by omega), (show k25_533 ≤ n26 from by omega), (show 2 * (k30_580 + j_14 + gx2_583) ≤ k25_533 from by omega), (show 0 ≤ 3 from by omega), (show pil f28_11 k29_579 gx2_583 y_13 j_14 gk2_584 from q_585), (show k31_581 = gx2_583 + y_13 from by omega), (show gx2_583 + y_13 ≤ 6 from by omega), (show 1 ≤ 0 ∨ wfs f19_582 (200 * n14) k30_580 (j_14 + (1 - 0)) from Or.inr (q_590 _ (by omega) hw_575)), (show ∀ i : Nat, i < 200 * n14 → f19_582 i = fv 19 i from hfr_594), (show plS f28_11 (pN sg_16) from q_591), (show k29_579 = (pN sg_16).length from q_592), (show k31_581 = dep (pN sg_16) from by omega), (show 0 = 0 → mo_3 = 1 → Rch (fv 0) n26 (0, skB (fv 0) n26 n25, [], []) (1 - 0, skB (fv 0) n26 k25_533, (pN sg_16), ((Tm_17 ++ [(13, w_550, m_551, v_552)]) ++ eN sg_16)) from (fun _ _ => by rw [h_554 rfl]; exact hr7.st (st_te hno ht_553))), (show ¬ 0 = 0 → rcF (fv 0) n26 (0, skB (fv 0) n26 n25, [], []) 0 p22_532 from fun h9 => absurd rfl h9), (show mo_3 = 0 → 0 = 0 → eiE (fv 0) n26 (0, skB (fv 0) n26 n25, [], []) (pN sg_16) ((Tm_17 ++ [(13, w_550, m_551, v_552)]) ++ eN sg_16) k25_533 from fun h9 => by omega), (show 0 = 0 → p22_532 = iv 22 from fun _ => (q_541 rfl).trans (hp0_35 rfl))⟩ hP hD hS (lv_sub hl [0, 3, 4] rfl)
  have d_595 := n_eq (a := c_206) (b := 3) (by omega) (by omega) c_526
  refine lv_aload_n hx hb dX9_either_57 rfl (lv_at hl 4 rfl) ?_
  refine lv_iload_n hx hb dX9_either_58 rfl (lv_at hl 1 rfl) ?_
  refine lv_bipush (v := 40) hx hb dX9_either_59 (by decide) ?_
  refine lv_icmp_ne (tgt := 69) hx hb dX9_either_61 (by decide) (fun c_596 => ?_) (fun c_596 => absurd c_596 (c_491))
  refine lv_iconst (v := 3) hx hb dX9_either_69 (by decide) ?_
  have hFc := free_all hD hS hA
  refine va_callv (va_runV (As := [.int 3]) (rest := []) ⟨hx, hb, hml, hown, hts⟩ (m_opens l D h0 ad cs (upd (upd (upd (upd (upd (upd iv 21 (nI (0))) 22 p22_6) 25 (nI k25_200)) 29 (nI p_7)) 30 (nI d_8)) 31 (nI q_9)) (uF (uF fv 19 f19_10) 28 f28_11) gv 0 k25_200 n26 p_7 q_9 3 x_12 y_13 j_14 k_15 sg_16 H.size rfl rfl h26 rfl rfl (by omega) (by omega) (by omega) hp_24 (by omega) (by omega) (Or.inr ⟨rfl, by rw [show k25_200 + 3 = e_207 by omega]; exact he_208⟩) hpl_29 hpn_30) (cwV 1 hts gX9_either_X9_opens rfl rfl rfl (by decide +kernel) ⟨Nat.le_of_ble_eq_true rfl, Nat.le_of_ble_eq_true rfl⟩) ⟨fun a U g mk q => by obtain ⟨q0, q1, qP, qK, qD⟩ := q; exact ⟨q0, q1, qP, va_K.moved (u := U) (U := U.calling g mk a) (Vm.Alike.refl U.vm) qK, qD⟩, va_recv hK hP (ci := 9) (q0 := 0) rfl rfl, fun U hU hW => ⟨rfl, by rw [hU], by rw [hU]; exact hP, va_K.moved hW.alike hK, hD.weaken (fun _ _ _ _ => trivial)⟩⟩ rfl rfl hl.1 rfl (lv_room (Nat.le_of_ble_eq_true rfl)) dX9_either_70 ⟨Nat.le_of_ble_eq_true rfl, Nat.le_of_ble_eq_true rfl⟩) hS (fun q _ h => hFc q h) hFc (fun u t H1 locs ht hvm w_598 hB hz1 hk1 hS => ?_)
  obtain ⟨k21_599, p22_600, k25_601, k29_602, k31_603, f28_604, q_605, q_606, q_607, q_608, hP1, hK1, hD1⟩ := hB
  replace q_606 : (1 ≤ k21_599 ∧ k25_601 = k25_200 ∧ k29_602 = p_7 ∧ k31_603 = q_9 ∧ f28_604 = (f28_11)) ∨ (k21_599 = 0 ∧ k25_200 + 1 ≤ k25_601 ∧ k25_601 ≤ n26 ∧ k31_603 = q_9 + 1 ∧ q_9 ≤ 5 ∧ ∃ x y : Nat, x + y = x_12 + y_13 + 1 ∧ (x = x_12 ∨ (x = x_12 + 1 ∧ k25_200 + 3 ≤ k25_601)) ∧ pil f28_604 k29_602 x y j_14 0) := q_606
  replace q_608 : k21_599 = 0 → p22_600 = (p22_6) := q_608
  rw [ht] at hP1
  have hK := va_K.moved hvm.symm hK1
  generalize H1 = H at hP1 hS ⊢
  have hP : va_P D vwCl (mw h0 ad cs (upd (upd (upd (upd (upd (upd iv 21 (nI k21_599)) 22 p22_600) 25 (nI k25_601)) 29 (nI k29_602)) 30 (nI d_8)) 31 (nI k31_603)) (uF (uF fv 19 f19_10) 28 f28_604) gv) H := hP1
  have hD : va_D A (mw h0 ad cs (upd (upd (upd (upd (upd (upd iv 21 (nI k21_599)) 22 p22_600) 25 (nI k25_601)) 29 (nI k29_602)) 30 (nI d_8)) 31 (nI k31_603)) (uF (uF fv 19 f19_10) 28 f28_604) gv) := hD1.weaken (fun _ _ _ h => hFc _ h)
  have hw3 : wdE (fv 0) n26 k25_200 = 3 := by omega
  clear hc_209
  rcases q_606 with ⟨hpos_609, e25_610, e29_611, e31_612, e28_613⟩ | ⟨rfl, h1_614, h2_615, h3_616, h5_617, x_618, y_619, hxy_620, hx3_621, hp_622⟩
  · obtain ⟨g_623, g_624, g_625⟩ := q_607.resolve_right (fun h9 => by omega)
    refine lv_goto (tgt := 202) hx hb dX9_either_73 (by decide) ?_
    refine lv_goto (tgt := 19) hx hb dX9_either_202 (by decide) ?_
    exact ih_1 (1, mo_3, k25_601, k21_599, p22_600, k29_602, d_8, k31_603, f19_10, f28_604, x_12, y_13, j_14, k_15, sg_16, Tm_17) (mw h0 ad cs (upd (upd (upd (upd (upd (upd iv 21 (nI k21_599)) 22 p22_600) 25 (nI k25_601)) 29 (nI k29_602)) 30 (nI d_8)) 31 (nI k31_603)) (uF (uF fv 19 f19_10) 28 f28_604) gv) _ _ ls (by show 2 * (n26 - k25_601) + mo_3 + (1 - k21_599) < 2 * (n26 - a_4) + mo_3 + (1 - (0)); omega) ⟨rfl, (show 1 ≤ 1 from by omega), (show mo_3 ≤ 1 from by omega), (show 1 ≤ mo_3 ∨ 1 = 0 from by omega), (show k25_601 ≤ n26 from by omega), (show 2 * (d_8 + j_14 + x_12) ≤ k25_601 from by omega), (show k21_599 ≤ 3 from by omega), (show pil f28_604 k29_602 x_12 y_13 j_14 k_15 from (by rw [e28_613, e29_611]; exact hp_24)), (show k31_603 = x_12 + y_13 from by omega), (show x_12 + y_13 ≤ 6 from by omega), (show 1 ≤ k21_599 ∨ wfs f19_10 (200 * n14) d_8 (j_14 + (1 - 1)) from Or.inl (by omega)), (show ∀ i : Nat, i < 200 * n14 → f19_10 i = fv 19 i from hfr_28), (show plS f28_604 sg_16 from (by rw [e28_613]; exact hpl_29)), (show k29_602 = sg_16.length from (by omega)), (show k31_603 = dep sg_16 from by omega), (show k21_599 = 0 → mo_3 = 1 → Rch (fv 0) n26 (0, skB (fv 0) n26 n25, [], []) (1 - 1, skB (fv 0) n26 k25_601, sg_16, Tm_17) from fun h9 _ => absurd h9 (by omega)), (show ¬ k21_599 = 0 → rcF (fv 0) n26 (0, skB (fv 0) n26 n25, [], []) k21_599 p22_600 from fun _ => ⟨k25_200, g_625, by rw [g_624]; exact hr7.st (st_deep (Or.inr hw3) (by omega))⟩), (show mo_3 = 0 → k21_599 = 0 → eiE (fv 0) n26 (0, skB (fv 0) n26 n25, [], []) sg_16 Tm_17 k25_601 from fun h9 => by omega), (show k21_599 = 0 → p22_600 = iv 22 from fun h9 => absurd h9 (by omega))⟩ hP hD hS (lv_sub hl [2, 3, 4] rfl)
  obtain ⟨g_626, -, g_627, g_628, g_629⟩ := q_607.resolve_left (fun h9 => by omega)
  refine lv_goto (tgt := 202) hx hb dX9_either_73 (by decide) ?_
  refine lv_goto (tgt := 19) hx hb dX9_either_202 (by decide) ?_
  exact ih_1 (1, mo_3, k25_601, 0, p22_600, k29_602, d_8, k31_603, f19_10, f28_604, x_618, y_619, j_14, 0, 3 :: sg_16, Tm_17) (mw h0 ad cs (upd (upd (upd (upd (upd (upd iv 21 (nI 0)) 22 p22_600) 25 (nI k25_601)) 29 (nI k29_602)) 30 (nI d_8)) 31 (nI k31_603)) (uF (uF fv 19 f19_10) 28 f28_604) gv) _ _ ls (by show 2 * (n26 - k25_601) + mo_3 + (1 - 0) < 2 * (n26 - a_4) + mo_3 + (1 - (0)); omega) ⟨rfl, (show 1 ≤ 1 from by omega), (show mo_3 ≤ 1 from by omega), (show 1 ≤ mo_3 ∨ 1 = 0 from by omega), (show k25_601 ≤ n26 from by omega), (show 2 * (d_8 + j_14 + x_618) ≤ k25_601 from by omega), (show 0 ≤ 3 from by omega), (show pil f28_604 k29_602 x_618 y_619 j_14 0 from hp_622), (show k31_603 = x_618 + y_619 from by omega), (show x_618 + y_619 ≤ 6 from by omega), (show 1 ≤ 0 ∨ wfs f19_10 (200 * n14) d_8 (j_14 + (1 - 1)) from Or.inr hw_188), (show ∀ i : Nat, i < 200 * n14 → f19_10 i = fv 19 i from hfr_28), (show plS f28_604 (3 :: sg_16) from g_627), (show k29_602 = (3 :: sg_16).length from (by rw [List.length_cons]; omega)), (show k31_603 = dep (3 :: sg_16) from (by rw [dep_y _ (by omega)]; omega)), (show 0 = 0 → mo_3 = 1 → Rch (fv 0) n26 (0, skB (fv 0) n26 n25, [], []) (1 - 1, skB (fv 0) n26 k25_601, (3 :: sg_16), Tm_17) from (fun _ _ => by rw [show skB (fv 0) n26 k25_601 = nxF (fv 0) n26 k25_200 from nx_w (by omega) (by omega) hw3 (show k25_601 = k25_200 + 3 by omega)]; exact hr7.st (st_not hw3 (by omega)))), (show ¬ 0 = 0 → rcF (fv 0) n26 (0, skB (fv 0) n26 n25, [], []) 0 p22_600 from fun h9 => absurd rfl h9), (show mo_3 = 0 → 0 = 0 → eiE (fv 0) n26 (0, skB (fv 0) n26 n25, [], []) (3 :: sg_16) Tm_17 k25_601 from fun h9 => by omega), (show 0 = 0 → p22_600 = iv 22 from fun _ => (q_608 rfl).trans (hp0_35 rfl))⟩ hP hD hS (lv_sub hl [2, 3, 4] rfl)
