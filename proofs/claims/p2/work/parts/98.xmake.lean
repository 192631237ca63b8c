theorem dX8_lot_0 : decode cX8_lot 0 = .ok (.iload_n 1, 1) := by decide +kernel
theorem dX8_lot_1 : decode cX8_lot 1 = .ok (.iconst 0, 1) := by decide +kernel
theorem dX8_lot_2 : decode cX8_lot 2 = .ok (.bipush 9, 2) := by decide +kernel
theorem dX8_lot_4 : decode cX8_lot 4 = .ok (.invokestatic 85, 3) := by decide +kernel
theorem dX8_lot_7 : decode cX8_lot 7 = .ok (.ifCond .eq 51, 3) := by decide +kernel
theorem dX8_lot_10 : decode cX8_lot 10 = .ok (.iload_n 2, 1) := by decide +kernel
theorem dX8_lot_11 : decode cX8_lot 11 = .ok (.iconst 1, 1) := by decide +kernel
theorem dX8_lot_12 : decode cX8_lot 12 = .ok (.ldc 89, 2) := by decide +kernel
theorem dX8_lot_14 : decode cX8_lot 14 = .ok (.invokestatic 85, 3) := by decide +kernel
theorem dX8_lot_17 : decode cX8_lot 17 = .ok (.ifCond .eq 41, 3) := by decide +kernel
theorem dX8_lot_20 : decode cX8_lot 20 = .ok (.iload_n 3, 1) := by decide +kernel
theorem dX8_lot_21 : decode cX8_lot 21 = .ok (.bipush 100, 2) := by decide +kernel
theorem dX8_lot_23 : decode cX8_lot 23 = .ok (.sipush 300, 3) := by decide +kernel
theorem dX8_lot_26 : decode cX8_lot 26 = .ok (.invokestatic 85, 3) := by decide +kernel
theorem dX8_lot_29 : decode cX8_lot 29 = .ok (.ifCond .eq 29, 3) := by decide +kernel
theorem dX8_lot_32 : decode cX8_lot 32 = .ok (.iload 4, 2) := by decide +kernel
theorem dX8_lot_34 : decode cX8_lot 34 = .ok (.iconst 0, 1) := by decide +kernel
theorem dX8_lot_35 : decode cX8_lot 35 = .ok (.sipush 140, 3) := by decide +kernel
theorem dX8_lot_38 : decode cX8_lot 38 = .ok (.invokestatic 85, 3) := by decide +kernel
theorem dX8_lot_41 : decode cX8_lot 41 = .ok (.ifCond .eq 17, 3) := by decide +kernel
theorem dX8_lot_44 : decode cX8_lot 44 = .ok (.iload 5, 2) := by decide +kernel
theorem dX8_lot_46 : decode cX8_lot 46 = .ok (.iconst 0, 1) := by decide +kernel
theorem dX8_lot_47 : decode cX8_lot 47 = .ok (.iconst 3, 1) := by decide +kernel
theorem dX8_lot_48 : decode cX8_lot 48 = .ok (.invokestatic 85, 3) := by decide +kernel
theorem dX8_lot_51 : decode cX8_lot 51 = .ok (.ifCond .eq 7, 3) := by decide +kernel
theorem dX8_lot_54 : decode cX8_lot 54 = .ok (.iconst 1, 1) := by decide +kernel
theorem dX8_lot_55 : decode cX8_lot 55 = .ok (.goto 4, 3) := by decide +kernel
theorem dX8_lot_58 : decode cX8_lot 58 = .ok (.iconst 0, 1) := by decide +kernel
theorem dX8_lot_59 : decode cX8_lot 59 = .ok (.istore 6, 2) := by decide +kernel
theorem dX8_lot_61 : decode cX8_lot 61 = .ok (.iload 6, 2) := by decide +kernel
theorem dX8_lot_63 : decode cX8_lot 63 = .ok (.ifCond .eq 15, 3) := by decide +kernel
theorem dX8_lot_66 : decode cX8_lot 66 = .ok (.aload_n 0, 1) := by decide +kernel
theorem dX8_lot_67 : decode cX8_lot 67 = .ok (.getfield 90, 3) := by decide +kernel
theorem dX8_lot_70 : decode cX8_lot 70 = .ok (.aload_n 0, 1) := by decide +kernel
theorem dX8_lot_71 : decode cX8_lot 71 = .ok (.getfield 11, 3) := by decide +kernel
theorem dX8_lot_74 : decode cX8_lot 74 = .ok (.arraylength, 1) := by decide +kernel
theorem dX8_lot_75 : decode cX8_lot 75 = .ok (.if_icmp .lt 5, 3) := by decide +kernel
theorem dX8_lot_78 : decode cX8_lot 78 = .ok (.iconst (-1), 1) := by decide +kernel
theorem dX8_lot_79 : decode cX8_lot 79 = .ok (.ireturn, 1) := by decide +kernel
theorem dX8_lot_80 : decode cX8_lot 80 = .ok (.aload_n 0, 1) := by decide +kernel
theorem dX8_lot_81 : decode cX8_lot 81 = .ok (.getfield 11, 3) := by decide +kernel
theorem dX8_lot_84 : decode cX8_lot 84 = .ok (.aload_n 0, 1) := by decide +kernel
theorem dX8_lot_85 : decode cX8_lot 85 = .ok (.getfield 90, 3) := by decide +kernel
theorem dX8_lot_88 : decode cX8_lot 88 = .ok (.new 9, 3) := by decide +kernel
theorem dX8_lot_91 : decode cX8_lot 91 = .ok (.dup, 1) := by decide +kernel
theorem dX8_lot_92 : decode cX8_lot 92 = .ok (.iload_n 1, 1) := by decide +kernel
theorem dX8_lot_93 : decode cX8_lot 93 = .ok (.iload_n 2, 1) := by decide +kernel
theorem dX8_lot_94 : decode cX8_lot 94 = .ok (.iload_n 3, 1) := by decide +kernel
theorem dX8_lot_95 : decode cX8_lot 95 = .ok (.iload 4, 2) := by decide +kernel
theorem dX8_lot_97 : decode cX8_lot 97 = .ok (.iload 5, 2) := by decide +kernel
theorem dX8_lot_99 : decode cX8_lot 99 = .ok (.aload_n 0, 1) := by decide +kernel
theorem dX8_lot_100 : decode cX8_lot 100 = .ok (.getfield 33, 3) := by decide +kernel
theorem dX8_lot_103 : decode cX8_lot 103 = .ok (.invokespecial 93, 3) := by decide +kernel
theorem dX8_lot_106 : decode cX8_lot 106 = .ok (.aastore, 1) := by decide +kernel
theorem dX8_lot_107 : decode cX8_lot 107 = .ok (.aload_n 0, 1) := by decide +kernel
theorem dX8_lot_108 : decode cX8_lot 108 = .ok (.dup, 1) := by decide +kernel
theorem dX8_lot_109 : decode cX8_lot 109 = .ok (.getfield 90, 3) := by decide +kernel
theorem dX8_lot_112 : decode cX8_lot 112 = .ok (.iconst 1, 1) := by decide +kernel
theorem dX8_lot_113 : decode cX8_lot 113 = .ok (.iadd, 1) := by decide +kernel
theorem dX8_lot_114 : decode cX8_lot 114 = .ok (.putfield 90, 3) := by decide +kernel
theorem dX8_lot_117 : decode cX8_lot 117 = .ok (.aload_n 0, 1) := by decide +kernel
theorem dX8_lot_118 : decode cX8_lot 118 = .ok (.getfield 90, 3) := by decide +kernel
theorem dX8_lot_121 : decode cX8_lot 121 = .ok (.iconst 1, 1) := by decide +kernel
theorem dX8_lot_122 : decode cX8_lot 122 = .ok (.isub, 1) := by decide +kernel
theorem dX8_lot_123 : decode cX8_lot 123 = .ok (.ireturn, 1) := by decide +kernel
theorem dX8_jar_0 : decode cX8_jar 0 = .ok (.aload_n 0, 1) := by decide +kernel
theorem dX8_jar_1 : decode cX8_jar 1 = .ok (.iload_n 1, 1) := by decide +kernel
theorem dX8_jar_2 : decode cX8_jar 2 = .ok (.invokevirtual 139, 3) := by decide +kernel
theorem dX8_jar_5 : decode cX8_jar 5 = .ok (.astore_n 3, 1) := by decide +kernel
theorem dX8_jar_6 : decode cX8_jar 6 = .ok (.aload_n 3, 1) := by decide +kernel
theorem dX8_jar_7 : decode cX8_jar 7 = .ok (.ifnonnull 5, 3) := by decide +kernel
theorem dX8_jar_10 : decode cX8_jar 10 = .ok (.iconst (-1), 1) := by decide +kernel
theorem dX8_jar_11 : decode cX8_jar 11 = .ok (.ireturn, 1) := by decide +kernel
theorem dX8_jar_12 : decode cX8_jar 12 = .ok (.iload_n 2, 1) := by decide +kernel
theorem dX8_jar_13 : decode cX8_jar 13 = .ok (.iconst 1, 1) := by decide +kernel
theorem dX8_jar_14 : decode cX8_jar 14 = .ok (.aload_n 3, 1) := by decide +kernel
theorem dX8_jar_15 : decode cX8_jar 15 = .ok (.getfield 144, 3) := by decide +kernel
theorem dX8_jar_18 : decode cX8_jar 18 = .ok (.invokestatic 85, 3) := by decide +kernel
theorem dX8_jar_21 : decode cX8_jar 21 = .ok (.ifCond .ne 6, 3) := by decide +kernel
theorem dX8_jar_24 : decode cX8_jar 24 = .ok (.bipush (-2), 2) := by decide +kernel
theorem dX8_jar_26 : decode cX8_jar 26 = .ok (.ireturn, 1) := by decide +kernel
theorem dX8_jar_27 : decode cX8_jar 27 = .ok (.aload_n 0, 1) := by decide +kernel
theorem dX8_jar_28 : decode cX8_jar 28 = .ok (.getfield 170, 3) := by decide +kernel
theorem dX8_jar_31 : decode cX8_jar 31 = .ok (.aload_n 0, 1) := by decide +kernel
theorem dX8_jar_32 : decode cX8_jar 32 = .ok (.getfield 21, 3) := by decide +kernel
theorem dX8_jar_35 : decode cX8_jar 35 = .ok (.arraylength, 1) := by decide +kernel
theorem dX8_jar_36 : decode cX8_jar 36 = .ok (.if_icmp .lt 6, 3) := by decide +kernel
theorem dX8_jar_39 : decode cX8_jar 39 = .ok (.bipush (-3), 2) := by decide +kernel
theorem dX8_jar_41 : decode cX8_jar 41 = .ok (.ireturn, 1) := by decide +kernel
theorem dX8_jar_42 : decode cX8_jar 42 = .ok (.new 15, 3) := by decide +kernel
theorem dX8_jar_45 : decode cX8_jar 45 = .ok (.dup, 1) := by decide +kernel
theorem dX8_jar_46 : decode cX8_jar 46 = .ok (.iload_n 1, 1) := by decide +kernel
theorem dX8_jar_47 : decode cX8_jar 47 = .ok (.aload_n 0, 1) := by decide +kernel
theorem dX8_jar_48 : decode cX8_jar 48 = .ok (.getfield 82, 3) := by decide +kernel
theorem dX8_jar_51 : decode cX8_jar 51 = .ok (.invokespecial 65, 3) := by decide +kernel
theorem dX8_jar_54 : decode cX8_jar 54 = .ok (.astore 4, 2) := by decide +kernel
theorem dX8_jar_56 : decode cX8_jar 56 = .ok (.aload_n 3, 1) := by decide +kernel
theorem dX8_jar_57 : decode cX8_jar 57 = .ok (.getfield 160, 3) := by decide +kernel
theorem dX8_jar_60 : decode cX8_jar 60 = .ok (.istore 5, 2) := by decide +kernel
theorem dX8_jar_62 : decode cX8_jar 62 = .ok (.aload_n 0, 1) := by decide +kernel
theorem dX8_jar_63 : decode cX8_jar 63 = .ok (.getfield 47, 3) := by decide +kernel
theorem dX8_jar_66 : decode cX8_jar 66 = .ok (.aload_n 3, 1) := by decide +kernel
theorem dX8_jar_67 : decode cX8_jar 67 = .ok (.iload_n 2, 1) := by decide +kernel
theorem dX8_jar_68 : decode cX8_jar 68 = .ok (.invokevirtual 163, 3) := by decide +kernel
theorem dX8_jar_71 : decode cX8_jar 71 = .ok (.aload_n 0, 1) := by decide +kernel
theorem dX8_jar_72 : decode cX8_jar 72 = .ok (.getfield 47, 3) := by decide +kernel
theorem dX8_jar_75 : decode cX8_jar 75 = .ok (.aload 4, 2) := by decide +kernel
theorem dX8_jar_77 : decode cX8_jar 77 = .ok (.iload 5, 2) := by decide +kernel
theorem dX8_jar_79 : decode cX8_jar 79 = .ok (.invokevirtual 167, 3) := by decide +kernel
theorem dX8_jar_82 : decode cX8_jar 82 = .ok (.aload_n 0, 1) := by decide +kernel
theorem dX8_jar_83 : decode cX8_jar 83 = .ok (.getfield 21, 3) := by decide +kernel
theorem dX8_jar_86 : decode cX8_jar 86 = .ok (.aload_n 0, 1) := by decide +kernel
theorem dX8_jar_87 : decode cX8_jar 87 = .ok (.getfield 170, 3) := by decide +kernel
theorem dX8_jar_90 : decode cX8_jar 90 = .ok (.aload 4, 2) := by decide +kernel
theorem dX8_jar_92 : decode cX8_jar 92 = .ok (.aastore, 1) := by decide +kernel
theorem dX8_jar_93 : decode cX8_jar 93 = .ok (.aload_n 0, 1) := by decide +kernel
theorem dX8_jar_94 : decode cX8_jar 94 = .ok (.dup, 1) := by decide +kernel
theorem dX8_jar_95 : decode cX8_jar 95 = .ok (.getfield 170, 3) := by decide +kernel
theorem dX8_jar_98 : decode cX8_jar 98 = .ok (.iconst 1, 1) := by decide +kernel
theorem dX8_jar_99 : decode cX8_jar 99 = .ok (.iadd, 1) := by decide +kernel
theorem dX8_jar_100 : decode cX8_jar 100 = .ok (.putfield 170, 3) := by decide +kernel
theorem dX8_jar_103 : decode cX8_jar 103 = .ok (.aload_n 0, 1) := by decide +kernel
theorem dX8_jar_104 : decode cX8_jar 104 = .ok (.getfield 170, 3) := by decide +kernel
theorem dX8_jar_107 : decode cX8_jar 107 = .ok (.iconst 1, 1) := by decide +kernel
theorem dX8_jar_108 : decode cX8_jar 108 = .ok (.isub, 1) := by decide +kernel
theorem dX8_jar_109 : decode cX8_jar 109 = .ok (.ireturn, 1) := by decide +kernel
set_option maxRecDepth 20000 in
theorem ggX8_lot_X8_isIn : GoodIn wsX8_lot wsX8_isIn := goodIn_r _ [11] (by decide +kernel) (by decide +kernel)
set_option maxRecDepth 20000 in
theorem gX8_lot_X8_isIn : GoodIn wsX8_lot (va_wsS RX8 85 yX8_isIn wsX8_isIn) := goodIn_app (goodIn_of _ (by decide +kernel)) ggX8_lot_X8_isIn
set_option maxRecDepth 20000 in
theorem ggX8_lot_X2_init : GoodIn wsX8_lot wsX2_init := goodIn_r _ [14, 15, 16, 17, 18, 19, 20, 21, 22, 23, 24, 25, 26, 27, 28, 29, 30, 31, 32, 33, 34, 35, 36, 37, 38, 39, 40, 41, 42, 43, 44, 45, 46, 47, 48, 49, 50, 51, 52, 53, 69, 70, 71, 72, 73, 74, 75, 76, 77, 78, 79, 80] (by decide +kernel) (by decide +kernel)
set_option maxRecDepth 20000 in
theorem gX8_lot_X2_init : GoodIn wsX8_lot (wsX2_init) := ggX8_lot_X2_init
set_option maxRecDepth 20000 in
theorem ggX8_jar_X8_tankAt : GoodIn wsX8_jar wsX8_tankAt := goodIn_r _ [14, 15, 16, 17, 13, 18, 73, 74, 75, 76, 77, 78, 79, 80, 81, 82, 83, 84, 85, 86, 87] (by decide +kernel) (by decide +kernel)
set_option maxRecDepth 20000 in
theorem gX8_jar_X8_tankAt : GoodIn wsX8_jar (wsV RX8 139 RX8 yX8_tankAt wsX8_tankAt) := goodIn_app (goodIn_of _ (by decide +kernel)) ggX8_jar_X8_tankAt
set_option maxRecDepth 20000 in
theorem ggX8_jar_X8_isIn : GoodIn wsX8_jar wsX8_isIn := goodIn_r _ [18] (by decide +kernel) (by decide +kernel)
set_option maxRecDepth 20000 in
theorem gX8_jar_X8_isIn : GoodIn wsX8_jar (va_wsS RX8 85 yX8_isIn wsX8_isIn) := goodIn_app (goodIn_of _ (by decide +kernel)) ggX8_jar_X8_isIn
set_option maxRecDepth 20000 in
theorem ggX8_jar_X7_init : GoodIn wsX8_jar wsX7_init := goodIn_r _ [21, 22, 23, 24, 25, 26, 27, 28, 68, 69, 70, 71, 72] (by decide +kernel) (by decide +kernel)
set_option maxRecDepth 20000 in
theorem gX8_jar_X7_init : GoodIn wsX8_jar (wsX7_init) := ggX8_jar_X7_init
set_option maxRecDepth 20000 in
theorem ggX8_jar_X1_drawFrom : GoodIn wsX8_jar wsX1_drawFrom := goodIn_r _ [33, 34, 35, 36, 37, 38, 39, 32, 40, 41, 42, 43, 44, 45, 46, 47, 48, 49, 6, 50, 26, 51, 52, 53, 54, 55, 56, 57, 58, 59, 88, 89, 68, 69, 70, 71, 72] (by decide +kernel) (by decide +kernel)
set_option maxRecDepth 20000 in
theorem gX8_jar_X1_drawFrom : GoodIn wsX8_jar (wsV RX8 163 RX1 yX1_drawFrom wsX1_drawFrom) := goodIn_app (goodIn_of _ (by decide +kernel)) ggX8_jar_X1_drawFrom
set_option maxRecDepth 20000 in
theorem ggX8_jar_X1_fillInto : GoodIn wsX8_jar wsX1_fillInto := goodIn_r _ [63, 35, 36, 64, 65, 66, 67, 34, 55, 56, 57, 6, 58, 26, 59, 68, 69, 70, 71, 72, 88, 89] (by decide +kernel) (by decide +kernel)
set_option maxRecDepth 20000 in
theorem gX8_jar_X1_fillInto : GoodIn wsX8_jar (wsV RX8 167 RX1 yX1_fillInto wsX1_fillInto) := goodIn_app (goodIn_of _ (by decide +kernel)) ggX8_jar_X1_fillInto
section XST
variable {ws : va_W} {tys : List (ClassId × FieldType)} {kq b : Nat} {c : ClassId} {m : Nat} {g : Nat → Option Nat} {z : Nat × va_E}
theorem aup {g : Nat → Option Nat} {i q j v : Nat} {P : Nat → Prop} (hj : va_up g i (some q) j = some v) (h1 : g j = some v → P v) (h2 : P q) : P v := by
  by_cases h : j = i
  · rw [h, va_up_self] at hj; cases hj; exact h2
  · rw [va_up_ne _ _ h] at hj; exact h1 hj
theorem aI.st {a n : Nat} (h : aI ws tys a n) (eq : ws[kq]? = some (b, .inl (c, m, .inr (.inr (.inr (.inr g)))))) : aI (ws.set kq z) tys a n := by
  obtain ⟨k, c1, t, f, e, u⟩ := h
  exact ⟨k, c1, t, f, set_o e eq (by intro h9; simp at h9), u⟩
theorem aJ.st {a n : Nat} (h : aJ ws tys a n) (eq : ws[kq]? = some (b, .inl (c, m, .inr (.inr (.inr (.inr g)))))) : aJ (ws.set kq z) tys a n := by
  obtain ⟨k, c1, t, f, e, u⟩ := h
  exact ⟨k, c1, t, f, set_o e eq (by intro h9; simp at h9), u⟩
theorem oV.st {v : Nat} (h : oV ws tys v) (eq : ws[kq]? = some (b, .inl (c, m, .inr (.inr (.inr (.inr g)))))) : oV (ws.set kq z) tys v := by
  obtain ⟨k, q, x1, x2, x3, x4, e, a⟩ := h
  exact ⟨k, q, x1, x2, x3, x4, set_o e eq (by intro h9; simp at h9), a.st eq⟩
theorem oS.st {v : Nat} (h : oS ws tys v) (eq : ws[kq]? = some (b, .inl (c, m, .inr (.inr (.inr (.inr g)))))) : oS (ws.set kq z) tys v := by
  obtain ⟨k, q1, q2, e, a1, a2⟩ := h
  exact ⟨k, q1, q2, set_o e eq (by intro h9; simp at h9), a1.st eq, a2.st eq⟩
theorem oL.st {v : Nat} (h : oL ws tys v) (eq : ws[kq]? = some (b, .inl (c, m, .inr (.inr (.inr (.inr g)))))) : oL (ws.set kq z) tys v := by
  obtain ⟨k, lo, hi, st, x0, x1, x2, x3, x7, x8, x9, e, a1, a2, a3⟩ := h
  exact ⟨k, lo, hi, st, x0, x1, x2, x3, x7, x8, x9, set_o e eq (by intro h9; simp at h9), a1.st eq, a2.st eq, a3.st eq⟩
theorem oR.st {v : Nat} (h : oR ws tys v) (eq : ws[kq]? = some (b, .inl (c, m, .inr (.inr (.inr (.inr g)))))) : oR (ws.set kq z) tys v := by
  obtain ⟨k, cd, n, x0, x1, x3, x4, e, a1, hn⟩ := h
  exact ⟨k, cd, n, x0, x1, x3, x4, set_o e eq (by intro h9; simp at h9), a1.st eq, hn⟩
theorem oD.st {v : Nat} (h : oD ws tys v) (eq : ws[kq]? = some (b, .inl (c, m, .inr (.inr (.inr (.inr g)))))) : oD (ws.set kq z) tys v := by
  obtain ⟨k, q1, q2, e, a1, a2⟩ := h
  exact ⟨k, q1, q2, set_o e eq (by intro h9; simp at h9), a1.st eq, a2.st eq⟩
theorem oB.st {v : Nat} (h : oB ws tys v) (eq : ws[kq]? = some (b, .inl (c, m, .inr (.inr (.inr (.inr g)))))) : oB (ws.set kq z) tys v := by
  obtain ⟨k, q0, q2, q3, q4, q5, q6, q7, x1, x8, x9, x10, x11, x12, x13, e, a0, a2, a3, a4, a5, a6, a7⟩ := h
  exact ⟨k, q0, q2, q3, q4, q5, q6, q7, x1, x8, x9, x10, x11, x12, x13, set_o e eq (by intro h9; simp at h9), a0.st eq, a2.st eq, a3.st eq, a4.st eq, a5.st eq, a6.st eq, a7.st eq⟩
theorem oW.st {v tl : Nat} (h : oW ws tys v tl) (eq : ws[kq]? = some (b, .inl (c, m, .inr (.inr (.inr (.inr g)))))) : oW (ws.set kq z) tys v tl := by
  obtain ⟨k, tp, cd, kt, bb, x1, x2, x3, x4, x6, x7, y1, y2, y3, e, a1, et, a2⟩ := h
  exact ⟨k, tp, cd, kt, bb, x1, x2, x3, x4, x6, x7, y1, y2, y3, set_o e eq (by intro h9; simp at h9), a1.st eq, set_o et eq (by intro h9; simp at h9), a2.st eq⟩
theorem aQ.st {C : String} {P P' : Nat → Prop} {a n : Nat} (h : aQ ws tys C P a n) (eq : ws[kq]? = some (b, .inl (c, m, .inr (.inr (.inr (.inr g)))))) (hn : n ≠ m) (hp : ∀ v, P v → P' v) : aQ (ws.set kq z) tys C P' a n := by
  obtain ⟨k, c1, t, g1, e, u, hg⟩ := h
  exact ⟨k, c1, t, g1, set_o e eq (by intro h9; simp at h9; exact hn h9.2.2.1), u, fun j v hj => hp v (hg j v hj)⟩
end XST
theorem xi_lc {ws : va_W} {tys : List (ClassId × FieldType)} {h0 lc lc2 bc rc fc tl : Nat} {d : Int32} (h : XI ws tys h0 lc bc rc fc d tl) (e : lc = lc2) : XI ws tys h0 lc2 bc rc fc d tl := e ▸ h
set_option maxHeartbeats 4000000 in
set_option maxRecDepth 100000 in
theorem h_lot (l : Launch) (D : va_G) (ws : va_W) (tys : List (ClassId × FieldType)) (h0 lc bc rc fc : Nat) (dn : Int32) (tl : Nat) (a1 a2 a3 a4 a5 : Int32) (sz : Nat) (X : XI ws tys h0 lc bc rc fc dn tl) : Met l yX8_lot wsX8_lot ({ frames := 3, cells := 6, slots := 30, locals := 87 }) (va_Pc [.ref h0, .int a1, .int a2, .int a3, .int a4, .int a5] (fun U => U.heap.size = sz ∧ va_P D vwCl ws U.heap ∧ va_K D vwCl tys U ∧ va_D (fun _ => True) ws ∧ NZ U)) (va_Qi (fun (r : Int32) (_ : Unit) => r = if (a1 < 0 ∨ 9 < a1) ∨ (a2 < 1 ∨ 200000 < a2) ∨ (a3 < 100 ∨ 300 < a3) ∨ (a4 < 0 ∨ 140 < a4) ∨ (a5 < 0 ∨ 3 < a5) ∨ lc = 40 then (-1) else nI lc) (fun (_ : Unit) (t : State) => ∃ (ws' : va_W) (tys' : List (ClassId × FieldType)), va_P D vwCl ws' t.heap ∧ va_K D vwCl tys' t ∧ va_D (va_A ws sz) ws' ∧ XI ws' tys' h0 (if (a1 < 0 ∨ 9 < a1) ∨ (a2 < 1 ∨ 200000 < a2) ∨ (a3 < 100 ∨ 300 < a3) ∨ (a4 < 0 ∨ 140 < a4) ∨ (a5 < 0 ∨ 3 < a5) ∨ lc = 40 then lc else lc + 1) bc rc fc dn tl) (va_A ws sz)) 6 30 (va_A ws sz) := by
  refine Met.ofW (cc := cX8_lot) (maxL := 7) (ret := (some .int)) (by decide) rfl ?_
  intro p e s m args below meth c s₁ B hml hv
  obtain ⟨rfl, hsz, hP, hK, hD0, hnz⟩ := hv
  have hx := B.exec
  have hb := B.bytes
  have hr := B.returns
  have hts := atoms_spec (ws := wsX8_lot) B.pre
  have hown : s.vm.findClass RX8 = some m.cls := findClass_of_methodNamed B.named
  have hlocks := B.notSynchronized
  subst hsz
  have hD := hD0.self (sz := s.heap.size)
  generalize hAe : va_A ws s.heap.size = A at hD ⊢
  have hA : ∀ q : Nat, s.heap.size ≤ q → A q := fun q h => by rw [← hAe]; exact Or.inr h
  have hS : va_S A s.heap s.heap [] := va_S.rf
  have hsm : sm [] ws ws := sm.rf ws
  have htx : tyx tys tys := tyx.rf tys
  have hin2 : ∀ w ∈ u_ws RX2 TX2 10, w ∈ wsX8_lot := (fun _ h9 => List.mem_cons_of_mem _ (List.mem_append_left _ ((List.mem_append_right _ h9))))
  have hin8 : ∀ w ∈ u_ws RX8 TX8 15, w ∈ wsX8_lot := (fun _ h9 => List.mem_cons_of_mem _ (List.mem_append_left _ (List.mem_append_left _ ((List.mem_append_right _ h9)))))
  have hl := lv_entry ([.ref h0, .int a1, .int a2, .int a3, .int a4, .int a5]) (n := 7) (Nat.le_of_ble_eq_true rfl)
  rw [lg_entry_eq]
  generalize (lg_sl ([.ref h0, .int a1, .int a2, .int a3, .int a4, .int a5]) ++ List.replicate (7 - (lg_sl ([.ref h0, .int a1, .int a2, .int a3, .int a4, .int a5])).length) Slot.unset).toArray = ls at hl ⊢
  have hl : lv_has ls 7 [(0, .ref h0), (1, .int a1), (2, .int a2), (3, .int a3), (4, .int a4), (5, .int a5)] := hl
  obtain ⟨k0, la, ta, ba, ra, sn, rd, dr, bl, vd, fb, e0, hnum, qla, qta, qba, qra, qsn, qrd, qdr, qbl, qvd, qfb⟩ := id X
  obtain ⟨kla, cla, tla, fla, ela, ula, pla⟩ := id qla
  obtain ⟨ksn, s1, s2, esn, ⟨ks1, cs1, ts1, fs1, es1, us1⟩, ⟨ks2, cs2, ts2, fs2, es2, us2⟩⟩ := id qsn
  have hlc := hnum.1
  refine lv_iload_n hx hb dX8_lot_0 rfl (lv_at hl 1 rfl) ?_
  refine lv_iconst (v := 0) hx hb dX8_lot_1 (by decide) ?_
  refine lv_bipush (v := 9) hx hb dX8_lot_2 (by decide) ?_
  refine vp_callSi (W.runS (As := [.int a1, .int 0, .int 9]) (rest := []) ⟨hx, hb, hml, hown, hts⟩ (s_X8_isIn l a1 0 9) (va_cwS 3 hts gX8_lot_X8_isIn rfl rfl rfl (by decide +kernel) ⟨Nat.le_of_ble_eq_true rfl, Nat.le_of_ble_eq_true rfl⟩) ⟨fun a U g mk q => q, fun U hU hW => ⟨rfl, trivial⟩⟩ rfl rfl hl.1 rfl (lv_room (Nat.le_of_ble_eq_true rfl)) dX8_lot_4 ⟨Nat.le_of_ble_eq_true rfl, Nat.le_of_ble_eq_true rfl⟩) (fun r_1 k_2 => ?_)
  rcases k_2 with ⟨rfl, a_3o⟩ | ⟨rfl, a_3, b_4⟩
  · refine lv_if_eq (tgt := 58) hx hb dX8_lot_7 (by decide) (fun c_5 => ?_) (fun c_5 => absurd (by decide) c_5)
    refine lv_iconst (v := 0) hx hb dX8_lot_58 (by decide) ?_
    refine lv_istore (lv' := [(6, .int 0), (0, .ref h0), (1, .int a1), (2, .int a2), (3, .int a3), (4, .int a4), (5, .int a5)]) hx hb dX8_lot_59 hl (by decide) rfl (fun ls hl => ?_)
    refine lv_iload hx hb dX8_lot_61 (lv_at hl 0 rfl) ?_
    refine lv_if_eq (tgt := 78) hx hb dX8_lot_63 (by decide) (fun c_6 => ?_) (fun c_6 => absurd (by decide) c_6)
    refine lv_iconst (v := (-1)) hx hb dX8_lot_78 (by decide) ?_
    refine W.widen (k := 6) (n := 30) (by omega) (by omega) ?_
    exact W.iret (v := (-1)) hx hb hr (fun t ht hW => ⟨⟨(-1), (), rfl, ((if_pos (Or.inl a_3o)).symm), ws, tys, by rw [ht]; exact hP, va_K.moved hW.alike hK, hD, (xi_lc X ((if_pos (Or.inl a_3o)).symm))⟩, hS.F ht⟩) hS.2.2 dX8_lot_79
  refine lv_if_eq (tgt := 58) hx hb dX8_lot_7 (by decide) (fun c_7 => absurd c_7 (by decide)) (fun c_7 => ?_)
  refine lv_iload_n hx hb dX8_lot_10 rfl (lv_at hl 2 rfl) ?_
  refine lv_iconst (v := 1) hx hb dX8_lot_11 (by decide) ?_
  refine lv_ldc hx hb hown (hts (.constant RX8 89 (200000)) (List.mem_of_getElem? (i := 1) rfl)) dX8_lot_12 ?_
  refine vp_callSi (W.runS (As := [.int a2, .int 1, .int 200000]) (rest := []) ⟨hx, hb, hml, hown, hts⟩ (s_X8_isIn l a2 1 200000) (va_cwS 3 hts gX8_lot_X8_isIn rfl rfl rfl (by decide +kernel) ⟨Nat.le_of_ble_eq_true rfl, Nat.le_of_ble_eq_true rfl⟩) ⟨fun a U g mk q => q, fun U hU hW => ⟨rfl, trivial⟩⟩ rfl rfl hl.1 rfl (lv_room (Nat.le_of_ble_eq_true rfl)) dX8_lot_14 ⟨Nat.le_of_ble_eq_true rfl, Nat.le_of_ble_eq_true rfl⟩) (fun r_8 k_9 => ?_)
  rcases k_9 with ⟨rfl, a_10o⟩ | ⟨rfl, a_10, b_11⟩
  · refine lv_if_eq (tgt := 58) hx hb dX8_lot_17 (by decide) (fun c_12 => ?_) (fun c_12 => absurd (by decide) c_12)
    refine lv_iconst (v := 0) hx hb dX8_lot_58 (by decide) ?_
    refine lv_istore (lv' := [(6, .int 0), (0, .ref h0), (1, .int a1), (2, .int a2), (3, .int a3), (4, .int a4), (5, .int a5)]) hx hb dX8_lot_59 hl (by decide) rfl (fun ls hl => ?_)
    refine lv_iload hx hb dX8_lot_61 (lv_at hl 0 rfl) ?_
    refine lv_if_eq (tgt := 78) hx hb dX8_lot_63 (by decide) (fun c_13 => ?_) (fun c_13 => absurd (by decide) c_13)
    refine lv_iconst (v := (-1)) hx hb dX8_lot_78 (by decide) ?_
    refine W.widen (k := 6) (n := 30) (by omega) (by omega) ?_
    exact W.iret (v := (-1)) hx hb hr (fun t ht hW => ⟨⟨(-1), (), rfl, ((if_pos (Or.inr (Or.inl a_10o))).symm), ws, tys, by rw [ht]; exact hP, va_K.moved hW.alike hK, hD, (xi_lc X ((if_pos (Or.inr (Or.inl a_10o))).symm))⟩, hS.F ht⟩) hS.2.2 dX8_lot_79
  refine lv_if_eq (tgt := 58) hx hb dX8_lot_17 (by decide) (fun c_14 => absurd c_14 (by decide)) (fun c_14 => ?_)
  refine lv_iload_n hx hb dX8_lot_20 rfl (lv_at hl 3 rfl) ?_
  refine lv_bipush (v := 100) hx hb dX8_lot_21 (by decide) ?_
  refine lv_sipush (v := 300) hx hb dX8_lot_23 (by decide) ?_
  refine vp_callSi (W.runS (As := [.int a3, .int 100, .int 300]) (rest := []) ⟨hx, hb, hml, hown, hts⟩ (s_X8_isIn l a3 100 300) (va_cwS 3 hts gX8_lot_X8_isIn rfl rfl rfl (by decide +kernel) ⟨Nat.le_of_ble_eq_true rfl, Nat.le_of_ble_eq_true rfl⟩) ⟨fun a U g mk q => q, fun U hU hW => ⟨rfl, trivial⟩⟩ rfl rfl hl.1 rfl (lv_room (Nat.le_of_ble_eq_true rfl)) dX8_lot_26 ⟨Nat.le_of_ble_eq_true rfl, Nat.le_of_ble_eq_true rfl⟩) (fun r_15 k_16 => ?_)
  rcases k_16 with ⟨rfl, a_17o⟩ | ⟨rfl, a_17, b_18⟩
  · refine lv_if_eq (tgt := 58) hx hb dX8_lot_29 (by decide) (fun c_19 => ?_) (fun c_19 => absurd (by decide) c_19)
    refine lv_iconst (v := 0) hx hb dX8_lot_58 (by decide) ?_
    refine lv_istore (lv' := [(6, .int 0), (0, .ref h0), (1, .int a1), (2, .int a2), (3, .int a3), (4, .int a4), (5, .int a5)]) hx hb dX8_lot_59 hl (by decide) rfl (fun ls hl => ?_)
    refine lv_iload hx hb dX8_lot_61 (lv_at hl 0 rfl) ?_
    refine lv_if_eq (tgt := 78) hx hb dX8_lot_63 (by decide) (fun c_20 => ?_) (fun c_20 => absurd (by decide) c_20)
    refine lv_iconst (v := (-1)) hx hb dX8_lot_78 (by decide) ?_
    refine W.widen (k := 6) (n := 30) (by omega) (by omega) ?_
    exact W.iret (v := (-1)) hx hb hr (fun t ht hW => ⟨⟨(-1), (), rfl, ((if_pos (Or.inr (Or.inr (Or.inl a_17o)))).symm), ws, tys, by rw [ht]; exact hP, va_K.moved hW.alike hK, hD, (xi_lc X ((if_pos (Or.inr (Or.inr (Or.inl a_17o)))).symm))⟩, hS.F ht⟩) hS.2.2 dX8_lot_79
  refine lv_if_eq (tgt := 58) hx hb dX8_lot_29 (by decide) (fun c_21 => absurd c_21 (by decide)) (fun c_21 => ?_)
  refine lv_iload hx hb dX8_lot_32 (lv_at hl 4 rfl) ?_
  refine lv_iconst (v := 0) hx hb dX8_lot_34 (by decide) ?_
  refine lv_sipush (v := 140) hx hb dX8_lot_35 (by decide) ?_
  refine vp_callSi (W.runS (As := [.int a4, .int 0, .int 140]) (rest := []) ⟨hx, hb, hml, hown, hts⟩ (s_X8_isIn l a4 0 140) (va_cwS 3 hts gX8_lot_X8_isIn rfl rfl rfl (by decide +kernel) ⟨Nat.le_of_ble_eq_true rfl, Nat.le_of_ble_eq_true rfl⟩) ⟨fun a U g mk q => q, fun U hU hW => ⟨rfl, trivial⟩⟩ rfl rfl hl.1 rfl (lv_room (Nat.le_of_ble_eq_true rfl)) dX8_lot_38 ⟨Nat.le_of_ble_eq_true rfl, Nat.le_of_ble_eq_true rfl⟩) (fun r_22 k_23 => ?_)
  rcases k_23 with ⟨rfl, a_24o⟩ | ⟨rfl, a_24, b_25⟩
  · refine lv_if_eq (tgt := 58) hx hb dX8_lot_41 (by decide) (fun c_26 => ?_) (fun c_26 => absurd (by decide) c_26)
    refine lv_iconst (v := 0) hx hb dX8_lot_58 (by decide) ?_
    refine lv_istore (lv' := [(6, .int 0), (0, .ref h0), (1, .int a1), (2, .int a2), (3, .int a3), (4, .int a4), (5, .int a5)]) hx hb dX8_lot_59 hl (by decide) rfl (fun ls hl => ?_)
    refine lv_iload hx hb dX8_lot_61 (lv_at hl 0 rfl) ?_
    refine lv_if_eq (tgt := 78) hx hb dX8_lot_63 (by decide) (fun c_27 => ?_) (fun c_27 => absurd (by decide) c_27)
    refine lv_iconst (v := (-1)) hx hb dX8_lot_78 (by decide) ?_
    refine W.widen (k := 6) (n := 30) (by omega) (by omega) ?_
    exact W.iret (v := (-1)) hx hb hr (fun t ht hW => ⟨⟨(-1), (), rfl, ((if_pos (Or.inr (Or.inr (Or.inr (Or.inl a_24o))))).symm), ws, tys, by rw [ht]; exact hP, va_K.moved hW.alike hK, hD, (xi_lc X ((if_pos (Or.inr (Or.inr (Or.inr (Or.inl a_24o))))).symm))⟩, hS.F ht⟩) hS.2.2 dX8_lot_79
  refine lv_if_eq (tgt := 58) hx hb dX8_lot_41 (by decide) (fun c_28 => absurd c_28 (by decide)) (fun c_28 => ?_)
  refine lv_iload hx hb dX8_lot_44 (lv_at hl 5 rfl) ?_
  refine lv_iconst (v := 0) hx hb dX8_lot_46 (by decide) ?_
  refine lv_iconst (v := 3) hx hb dX8_lot_47 (by decide) ?_
  refine vp_callSi (W.runS (As := [.int a5, .int 0, .int 3]) (rest := []) ⟨hx, hb, hml, hown, hts⟩ (s_X8_isIn l a5 0 3) (va_cwS 3 hts gX8_lot_X8_isIn rfl rfl rfl (by decide +kernel) ⟨Nat.le_of_ble_eq_true rfl, Nat.le_of_ble_eq_true rfl⟩) ⟨fun a U g mk q => q, fun U hU hW => ⟨rfl, trivial⟩⟩ rfl rfl hl.1 rfl (lv_room (Nat.le_of_ble_eq_true rfl)) dX8_lot_48 ⟨Nat.le_of_ble_eq_true rfl, Nat.le_of_ble_eq_true rfl⟩) (fun r_29 k_30 => ?_)
  rcases k_30 with ⟨rfl, a_31o⟩ | ⟨rfl, a_31, b_32⟩
  · refine lv_if_eq (tgt := 58) hx hb dX8_lot_51 (by decide) (fun c_33 => ?_) (fun c_33 => absurd (by decide) c_33)
    refine lv_iconst (v := 0) hx hb dX8_lot_58 (by decide) ?_
    refine lv_istore (lv' := [(6, .int 0), (0, .ref h0), (1, .int a1), (2, .int a2), (3, .int a3), (4, .int a4), (5, .int a5)]) hx hb dX8_lot_59 hl (by decide) rfl (fun ls hl => ?_)
    refine lv_iload hx hb dX8_lot_61 (lv_at hl 0 rfl) ?_
    refine lv_if_eq (tgt := 78) hx hb dX8_lot_63 (by decide) (fun c_34 => ?_) (fun c_34 => absurd (by decide) c_34)
    refine lv_iconst (v := (-1)) hx hb dX8_lot_78 (by decide) ?_
    refine W.widen (k := 6) (n := 30) (by omega) (by omega) ?_
    exact W.iret (v := (-1)) hx hb hr (fun t ht hW => ⟨⟨(-1), (), rfl, ((if_pos (Or.inr (Or.inr (Or.inr (Or.inr (Or.inl a_31o)))))).symm), ws, tys, by rw [ht]; exact hP, va_K.moved hW.alike hK, hD, (xi_lc X ((if_pos (Or.inr (Or.inr (Or.inr (Or.inr (Or.inl a_31o)))))).symm))⟩, hS.F ht⟩) hS.2.2 dX8_lot_79
  refine lv_if_eq (tgt := 58) hx hb dX8_lot_51 (by decide) (fun c_35 => absurd c_35 (by decide)) (fun c_35 => ?_)
  refine lv_iconst (v := 1) hx hb dX8_lot_54 (by decide) ?_
  refine lv_goto (tgt := 59) hx hb dX8_lot_55 (by decide) ?_
  refine lv_istore (lv' := [(6, .int 1), (0, .ref h0), (1, .int a1), (2, .int a2), (3, .int a3), (4, .int a4), (5, .int a5)]) hx hb dX8_lot_59 hl (by decide) rfl (fun ls hl => ?_)
  refine lv_iload hx hb dX8_lot_61 (lv_at hl 0 rfl) ?_
  refine lv_if_eq (tgt := 78) hx hb dX8_lot_63 (by decide) (fun c_36 => absurd c_36 (by decide)) (fun c_36 => ?_)
  refine lv_aload_n hx hb dX8_lot_66 rfl (lv_at hl 1 rfl) ?_
  refine va_get (D := D) (ci := 8) (v := .int (nI lc)) (C := RX8) (T := TX8) (N := 15) hx hb hts hin8 hown hK hP k0 e0 rfl 10 (by decide) (hts (.fieldLink RX8 90 "HoneyHouse" "lotCount" "I") (List.mem_of_getElem? (i := 2) rfl)) (fun _ h9 => h9) rfl dX8_lot_67 ?_
  refine lv_aload_n hx hb dX8_lot_70 rfl (lv_at hl 1 rfl) ?_
  refine va_get (D := D) (ci := 8) (v := .ref la) (C := RX8) (T := TX8) (N := 15) hx hb hts hin8 hown hK hP k0 e0 rfl 0 (by decide) (hts (.fieldLink RX8 11 "HoneyHouse" "lots" "[LHoneyHouse$Lot;") (List.mem_of_getElem? (i := 3) rfl)) (fun _ h9 => h9) rfl dX8_lot_71 ?_
  refine va_alen (v := 40) hx hb hK hP kla tla ela ula rfl dX8_lot_74 ?_
  refine lv_icmp_lt (tgt := 80) hx hb dX8_lot_75 (by decide) (fun c_37 => ?_) (fun c_37 => ?_)
  · have d_38 := n_lt (a := lc) (b := 40) (by omega) (by omega) c_37
    refine lv_aload_n hx hb dX8_lot_80 rfl (lv_at hl 1 rfl) ?_
    refine va_get (D := D) (ci := 8) (v := .ref la) (C := RX8) (T := TX8) (N := 15) hx hb hts hin8 hown hK hP k0 e0 rfl 0 (by decide) (hts (.fieldLink RX8 11 "HoneyHouse" "lots" "[LHoneyHouse$Lot;") (List.mem_of_getElem? (i := 3) rfl)) (fun _ h9 => h9) rfl dX8_lot_81 ?_
    refine lv_aload_n hx hb dX8_lot_84 rfl (lv_at hl 1 rfl) ?_
    refine va_get (D := D) (ci := 8) (v := .int (nI lc)) (C := RX8) (T := TX8) (N := 15) hx hb hts hin8 hown hK hP k0 e0 rfl 10 (by decide) (hts (.fieldLink RX8 90 "HoneyHouse" "lotCount" "I") (List.mem_of_getElem? (i := 2) rfl)) (fun _ h9 => h9) rfl dX8_lot_85 ?_
    refine va_new (ci := 2) (fs := [.int 0, .int 0, .int 0, .int 0, .null, .null, .null, .int 0, .int 0, .int 0]) (C := RX2) (T := TX2) (N := 10) hx hb hts hin2 tyX2 tyX2_ok hown (hts (.classLink RX8 9 RX2) (List.mem_of_getElem? (i := 4) rfl)) (hts (.instantiable RX2 10) (List.mem_of_getElem? (i := 5) rfl)) (hts (.initialized RX2) (List.mem_of_getElem? (i := 6) rfl)) hK hP hD hS hA rfl (fun j hj => by rcases (show j = 0 ∨ j = 1 ∨ j = 2 ∨ j = 3 ∨ j = 4 ∨ j = 5 ∨ j = 6 ∨ j = 7 ∨ j = 8 ∨ j = 9 by omega) with rfl | rfl | rfl | rfl | rfl | rfl | rfl | rfl | rfl | rfl <;> rfl) (Nat.le_of_ble_eq_true rfl) (Nat.le_of_ble_eq_true rfl) dX8_lot_88 (fun q_39 H hP hD hS => ?_)
    have le_40 := hsm.len
    have hP : va_P D vwCl (ws ++ [(q_39, .inr (2, [.int 0, .int 0, .int 0, .int 0, .null, .null, .null, .int 0, .int 0, .int 0]))]) H := hP
    have hD : va_D A (ws ++ [(q_39, .inr (2, [.int 0, .int 0, .int 0, .int 0, .null, .null, .null, .int 0, .int 0, .int 0]))]) := hD
    have hm_42 : sm [] ws (ws ++ [(q_39, .inr (2, [.int 0, .int 0, .int 0, .int 0, .null, .null, .null, .int 0, .int 0, .int 0]))]) := sm.app _ _ _
    have e_43 : (ws ++ [(q_39, .inr (2, [.int 0, .int 0, .int 0, .int 0, .null, .null, .null, .int 0, .int 0, .int 0]))])[ws.length]? = some (q_39, .inr (2, [.int 0, .int 0, .int 0, .int 0, .null, .null, .null, .int 0, .int 0, .int 0])) := ap_new _ _
    generalize ws ++ [(q_39, .inr (2, [.int 0, .int 0, .int 0, .int 0, .null, .null, .null, .int 0, .int 0, .int 0]))] = ws_41 at hP hD hm_42 e_43
    have e_44 := hm_42.objK e0 (by decide)
    have e_45 := hm_42.arrQ ela
    have e_46 := hm_42.objK esn (by decide)
    obtain ⟨f_48, e_47⟩ := hm_42.arrI es1
    obtain ⟨f_50, e_49⟩ := hm_42.arrI es2
    have hsm := hsm.tr (hm_42.mono (fun _ h9 => absurd h9 List.not_mem_nil))
    refine W.widen (k := 1) (n := 10) (by omega) (by omega) ?_
    refine lv_dup hx hb dX8_lot_91 rfl ?_
    refine lv_iload_n hx hb dX8_lot_92 rfl (lv_at hl 2 rfl) ?_
    refine lv_iload_n hx hb dX8_lot_93 rfl (lv_at hl 3 rfl) ?_
    refine lv_iload_n hx hb dX8_lot_94 rfl (lv_at hl 4 rfl) ?_
    refine lv_iload hx hb dX8_lot_95 (lv_at hl 5 rfl) ?_
    refine lv_iload hx hb dX8_lot_97 (lv_at hl 6 rfl) ?_
    refine lv_aload_n hx hb dX8_lot_99 rfl (lv_at hl 1 rfl) ?_
    refine va_get (D := D) (ci := 8) (v := .ref sn) (C := RX8) (T := TX8) (N := 15) hx hb hts hin8 hown hK hP k0 e_44 rfl 4 (by decide) (hts (.fieldLink RX8 33 "HoneyHouse" "stepsNow" "LHoneyHouse$Steps;") (List.mem_of_getElem? (i := 7) rfl)) (fun _ h9 => h9) rfl dX8_lot_100 ?_
    have hFc := free_all hD hS hA
    refine va_callv (va_runI (As := [.int a1, .int a2, .int a3, .int a4, .int a5, .ref sn]) (rest := [.ref q_39, .int (nI lc), .ref la]) ⟨hx, hb, hml, hown, hts⟩ (c_X2_init l D ws_41 tys q_39 ws.length a1 a2 a3 a4 a5 sn ksn s1 ks1 s2 ks2 cs1 cs2 ts1 ts2 f_48 f_50 H.size e_43 e_46 e_47 us1 e_49 us2) (cwI 6 hts gX8_lot_X2_init rfl rfl rfl (hts (.initialized RX2) (List.mem_of_getElem? (i := 6) rfl)) (hts (.methodLink RX8 93 yX2_init) (List.mem_of_getElem? (i := 12) rfl)) (hts (.instanceMethod yX2_init) (List.mem_of_getElem? (i := 13) rfl)) rfl (by decide +kernel) ⟨Nat.le_of_ble_eq_true rfl, Nat.le_of_ble_eq_true rfl⟩) ⟨fun a U g mk q => by obtain ⟨q0, q1, qP, qK, qD, qZ⟩ := q; exact ⟨q0, q1, qP, va_K.moved (u := U) (U := U.calling g mk a) (Vm.Alike.refl U.vm) qK, qD, NZ.same rfl qZ⟩, fun U hU hW => ⟨rfl, by rw [hU], by rw [hU]; exact hP, va_K.moved hW.alike hK, hD.weaken (fun _ _ _ _ => trivial), NZ.warm hW hnz⟩⟩ rfl rfl hl.1 rfl (lv_room (Nat.le_of_ble_eq_true rfl)) dX8_lot_103 ⟨Nat.le_of_ble_eq_true rfl, Nat.le_of_ble_eq_true rfl⟩) hS (fun q _ h => hFc q h) hFc (fun u t H1 locs ht hvm w_51 hB hz1 hk1 hS => ?_)
    obtain ⟨ws_52, ty_53, hm_54, ht_56, hP1, hK1, hD1, hx_55⟩ := hB
    rw [ht] at hP1
    have hK := va_K.moved hvm.symm hK1
    have hD := hD1.weaken (fun _ _ _ h => hFc _ h)
    generalize H1 = H at hP1 hS ⊢
    have hP := hP1
    have e_57 := hm_54.objK (pl_ne e_44 e_43 (by intro h9; simp at h9)) e_44 (by decide)
    have e_58 := hm_54.arrQ (pl_ne e_45 e_43 (by intro h9; simp at h9)) e_45
    have u_59 := ht_56 _ _ ula
    have e_60 := hm_54.objK (pl_ne e_46 e_43 (by intro h9; simp at h9)) e_46 (by decide)
    obtain ⟨f_62, e_61⟩ := hm_54.arrI (pl_ne e_47 e_43 (by intro h9; simp at h9)) e_47
    have u_63 := ht_56 _ _ us1
    obtain ⟨f_65, e_64⟩ := hm_54.arrI (pl_ne e_49 e_43 (by intro h9; simp at h9)) e_49
    have u_66 := ht_56 _ _ us2
    have hsm := hsm.trk (hm_54.mono (fun _ h9 => absurd h9 List.not_mem_nil)) le_40
    have htx := htx.tr ht_56
    refine W.widen (k := 6) (n := 30) (by omega) (by omega) ?_
    obtain ⟨k_67, g_68, g_69, g_70, x_71, x_72, x_73, x_74, x_75, x_76, x_77, e_78, ⟨k_79, c9_80, t_81, f_82, e_83, u_84⟩, ⟨k_85, c9_86, t_87, f_88, e_89, u_90⟩, k_91, g_92, g_93, e_94, ⟨k_95, c9_96, t_97, f_98, e_99, u_100⟩, k_101, c9_102, t_103, f_104, e_105, u_106⟩ := hx_55
    refine va_astq (f := fla) (n := 40) (r := (RX2, TX2, 10)) hx hb hK hP hD hS kla tla k_67 2 e_58 u_59 e_78 rfl (vp_in_nI (n := lc) (by omega) (by omega)) dX8_lot_106 (fun H locs hP hD hS => ?_)
    have hP : va_P D vwCl (ws_52.set kla (la, .inl (cla, 40, .inr (.inr (.inr (.inr (va_up fla (nI lc).toNatClampNeg (some q_39)))))))) H := hP
    have hD : va_D A (ws_52.set kla (la, .inl (cla, 40, .inr (.inr (.inr (.inr (va_up fla (nI lc).toNatClampNeg (some q_39)))))))) := hD
    have e_107 := set_o (z := (la, .inl (cla, 40, .inr (.inr (.inr (.inr (va_up fla (nI lc).toNatClampNeg (some q_39)))))))) e_57 e_58 (by intro h9; simp at h9)
    have cla_108 : aQ (ws_52.set kla (la, .inl (cla, 40, .inr (.inr (.inr (.inr (va_up fla (nI lc).toNatClampNeg (some q_39)))))))) ty_53 RX2 (oL (ws_52.set kla (la, .inl (cla, 40, .inr (.inr (.inr (.inr (va_up fla (nI lc).toNatClampNeg (some q_39)))))))) ty_53) la 40 := ⟨kla, cla, tla, _, wset_self e_58, u_59, fun j v hj => aup hj (fun hv => ((pla j v hv).sm hsm htx).st e_58) (oL.st (ws := ws_52) (tys := ty_53) (v := q_39) ⟨k_67, g_68, g_69, g_70, x_71, x_72, x_73, x_74, x_75, x_76, x_77, e_78, ⟨k_79, c9_80, t_81, f_82, e_83, u_84⟩, ⟨k_85, c9_86, t_87, f_88, e_89, u_90⟩, ⟨k_91, g_92, g_93, e_94, ⟨k_95, c9_96, t_97, f_98, e_99, u_100⟩, ⟨k_101, c9_102, t_103, f_104, e_105, u_106⟩⟩⟩ e_58)⟩
    have cta_109 : aQ (ws_52.set kla (la, .inl (cla, 40, .inr (.inr (.inr (.inr (va_up fla (nI lc).toNatClampNeg (some q_39)))))))) ty_53 RX7 (oV (ws_52.set kla (la, .inl (cla, 40, .inr (.inr (.inr (.inr (va_up fla (nI lc).toNatClampNeg (some q_39)))))))) ty_53) ta 10 := (qta.sm hsm htx (fun v hv => hv.sm hsm htx)).st e_58 (by decide) (fun v hv => hv.st e_58)
    have cba_110 : aQ (ws_52.set kla (la, .inl (cla, 40, .inr (.inr (.inr (.inr (va_up fla (nI lc).toNatClampNeg (some q_39)))))))) ty_53 RX7 (oV (ws_52.set kla (la, .inl (cla, 40, .inr (.inr (.inr (.inr (va_up fla (nI lc).toNatClampNeg (some q_39)))))))) ty_53) ba 60 := (qba.sm hsm htx (fun v hv => hv.sm hsm htx)).st e_58 (by decide) (fun v hv => hv.st e_58)
    have cra_111 : aQ (ws_52.set kla (la, .inl (cla, 40, .inr (.inr (.inr (.inr (va_up fla (nI lc).toNatClampNeg (some q_39)))))))) ty_53 RX3 (oR (ws_52.set kla (la, .inl (cla, 40, .inr (.inr (.inr (.inr (va_up fla (nI lc).toNatClampNeg (some q_39)))))))) ty_53) ra 16 := (qra.sm hsm htx (fun v hv => hv.sm hsm htx)).st e_58 (by decide) (fun v hv => hv.st e_58)
    have csn_112 : oS (ws_52.set kla (la, .inl (cla, 40, .inr (.inr (.inr (.inr (va_up fla (nI lc).toNatClampNeg (some q_39)))))))) ty_53 sn := (qsn.sm hsm htx).st e_58
    have cdr_113 : oD (ws_52.set kla (la, .inl (cla, 40, .inr (.inr (.inr (.inr (va_up fla (nI lc).toNatClampNeg (some q_39)))))))) ty_53 dr := (qdr.sm hsm htx).st e_58
    have cbl_114 : oB (ws_52.set kla (la, .inl (cla, 40, .inr (.inr (.inr (.inr (va_up fla (nI lc).toNatClampNeg (some q_39)))))))) ty_53 bl := (qbl.sm hsm htx).st e_58
    have cvd_115 : aI (ws_52.set kla (la, .inl (cla, 40, .inr (.inr (.inr (.inr (va_up fla (nI lc).toNatClampNeg (some q_39)))))))) ty_53 vd 16 := (qvd.sm hsm htx).st e_58
    have cfb_116 : aI (ws_52.set kla (la, .inl (cla, 40, .inr (.inr (.inr (.inr (va_up fla (nI lc).toNatClampNeg (some q_39)))))))) ty_53 fb 60 := (qfb.sm hsm htx).st e_58
    have crd_117 : oW (ws_52.set kla (la, .inl (cla, 40, .inr (.inr (.inr (.inr (va_up fla (nI lc).toNatClampNeg (some q_39)))))))) ty_53 rd tl := oW.st (ws := ws_52) (tys := ty_53) (v := rd) (tl := tl) (qrd.sm hsm htx (by decide)) e_58
    generalize ws_52.set kla (la, .inl (cla, 40, .inr (.inr (.inr (.inr (va_up fla (nI lc).toNatClampNeg (some q_39))))))) = ws_118 at hP hD e_107 cla_108 cta_109 cba_110 cra_111 csn_112 cdr_113 cbl_114 cvd_115 cfb_116 crd_117
    have hs2 : sm [8] ws_118 ws_118 := sm.rf _
    refine lv_aload_n hx hb dX8_lot_107 rfl (lv_at hl 1 rfl) ?_
    refine lv_dup hx hb dX8_lot_108 rfl ?_
    refine va_get (D := D) (ci := 8) (v := .int (nI lc)) (C := RX8) (T := TX8) (N := 15) hx hb hts hin8 hown hK hP k0 e_107 rfl 10 (by decide) (hts (.fieldLink RX8 90 "HoneyHouse" "lotCount" "I") (List.mem_of_getElem? (i := 2) rfl)) (fun _ h9 => h9) rfl dX8_lot_109 ?_
    refine lv_iconst (v := 1) hx hb dX8_lot_112 (by decide) ?_
    refine lv_iadd hx hb dX8_lot_113 ?_
    refine tp_i (y := nI (lc + 1)) (nI_add lc 1) ?_
    refine va_put (D := D) (ci := 8) (v := .int (nI (lc + 1))) (ty := .int) (C := RX8) (T := TX8) (N := 15) hx hb hts hin8 tyX8 tyX8_ok nmX8 hown hK hP hD hS k0 e_107 rfl 10 (by decide) (hts (.fieldLink RX8 90 "HoneyHouse" "lotCount" "I") (List.mem_of_getElem? (i := 2) rfl)) (fun _ h9 => h9) rfl (tyX8_ok 10 (by decide)) rfl rfl (Nat.le_of_ble_eq_true rfl) dX8_lot_114 (fun H locs hP hD hS => ?_)
    have hP : va_P D vwCl (ws_118.set k0 (h0, .inr (8, [.ref la, .ref ta, .ref ba, .ref ra, .ref sn, .ref rd, .ref dr, .ref bl, .ref vd, .ref fb, .int (nI (lc + 1)), .int (nI bc), .int (nI rc), .int (nI fc), .int dn]))) H := hP
    have hD : va_D A (ws_118.set k0 (h0, .inr (8, [.ref la, .ref ta, .ref ba, .ref ra, .ref sn, .ref rd, .ref dr, .ref bl, .ref vd, .ref fb, .int (nI (lc + 1)), .int (nI bc), .int (nI rc), .int (nI fc), .int dn]))) := hD
    have hm_120 : sm [8] ws_118 (ws_118.set k0 (h0, .inr (8, [.ref la, .ref ta, .ref ba, .ref ra, .ref sn, .ref rd, .ref dr, .ref bl, .ref vd, .ref fb, .int (nI (lc + 1)), .int (nI bc), .int (nI rc), .int (nI fc), .int dn]))) := sm.flds e_107 (smF.c (smV.rf _) (smF.c (smV.rf _) (smF.c (smV.rf _) (smF.c (smV.rf _) (smF.c (smV.rf _) (smF.c (smV.rf _) (smF.c (smV.rf _) (smF.c (smV.rf _) (smF.c (smV.rf _) (smF.c (smV.rf _) (smF.c (smV.i _ _) (smF.c (smV.rf _) (smF.c (smV.rf _) (smF.c (smV.rf _) (smF.c (smV.rf _) (rfl)))))))))))))))) (List.mem_singleton.mpr rfl)
    have e_121 : (ws_118.set k0 (h0, .inr (8, [.ref la, .ref ta, .ref ba, .ref ra, .ref sn, .ref rd, .ref dr, .ref bl, .ref vd, .ref fb, .int (nI (lc + 1)), .int (nI bc), .int (nI rc), .int (nI fc), .int dn])))[k0]? = some (h0, .inr (8, [.ref la, .ref ta, .ref ba, .ref ra, .ref sn, .ref rd, .ref dr, .ref bl, .ref vd, .ref fb, .int (nI (lc + 1)), .int (nI bc), .int (nI rc), .int (nI fc), .int dn])) := wset_self e_107
    generalize ws_118.set k0 (h0, .inr (8, [.ref la, .ref ta, .ref ba, .ref ra, .ref sn, .ref rd, .ref dr, .ref bl, .ref vd, .ref fb, .int (nI (lc + 1)), .int (nI bc), .int (nI rc), .int (nI fc), .int dn])) = ws_119 at hP hD hm_120 e_121
    have hs2 := hs2.tr (hm_120.mono (by decide))
    refine lv_aload_n hx hb dX8_lot_117 rfl (lv_at hl 1 rfl) ?_
    refine va_get (D := D) (ci := 8) (v := .int (nI (lc + 1))) (C := RX8) (T := TX8) (N := 15) hx hb hts hin8 hown hK hP k0 e_121 rfl 10 (by decide) (hts (.fieldLink RX8 90 "HoneyHouse" "lotCount" "I") (List.mem_of_getElem? (i := 2) rfl)) (fun _ h9 => h9) rfl dX8_lot_118 ?_
    refine lv_iconst (v := 1) hx hb dX8_lot_121 (by decide) ?_
    refine lv_isub hx hb dX8_lot_122 ?_
    refine tp_i (y := nI ((lc + 1) - 1)) (pk_sub (a := lc + 1) (b := 1) (by omega)) ?_
    refine W.widen (k := 6) (n := 30) (by omega) (by omega) ?_
    exact W.iret (v := nI ((lc + 1) - 1)) hx hb hr (fun t ht hW => ⟨⟨nI ((lc + 1) - 1), (), rfl, ((if_neg (fun h9 => by rcases h9 with (h9 | h9) | (h9 | h9) | (h9 | h9) | (h9 | h9) | (h9 | h9) | h9 <;> first | contradiction | omega)).symm), ws_119, ty_53, by rw [ht]; exact hP, va_K.moved hW.alike hK, hD, (xi_lc (xi_mk e_121 ⟨by omega, hnum.2.1, hnum.2.2.1, hnum.2.2.2.1, hnum.2.2.2.2⟩ cla_108 cta_109 cba_110 cra_111 csn_112 (crd_117.sm hs2 (tyx.rf _) (by decide)) cdr_113 cbl_114 cvd_115 cfb_116 hs2 (tyx.rf _)) ((if_neg (fun h9 => by rcases h9 with (h9 | h9) | (h9 | h9) | (h9 | h9) | (h9 | h9) | (h9 | h9) | h9 <;> first | contradiction | omega)).symm))⟩, hS.F ht⟩) hS.2.2 dX8_lot_123
  have d_122 := n_nlt (a := lc) (b := 40) (by omega) (by omega) c_37
  refine lv_iconst (v := (-1)) hx hb dX8_lot_78 (by decide) ?_
  refine W.widen (k := 6) (n := 30) (by omega) (by omega) ?_
  exact W.iret (v := (-1)) hx hb hr (fun t ht hW => ⟨⟨(-1), (), rfl, ((if_pos (Or.inr (Or.inr (Or.inr (Or.inr (Or.inr ((show lc = 40 by omega)))))))).symm), ws, tys, by rw [ht]; exact hP, va_K.moved hW.alike hK, hD, (xi_lc X ((if_pos (Or.inr (Or.inr (Or.inr (Or.inr (Or.inr ((show lc = 40 by omega)))))))).symm))⟩, hS.F ht⟩) hS.2.2 dX8_lot_79
set_option maxHeartbeats 4000000 in
set_option maxRecDepth 100000 in
theorem h_jar (l : Launch) (D : va_G) (ws : va_W) (tys : List (ClassId × FieldType)) (h0 lc bc rc fc : Nat) (dn : Int32) (tl : Nat) (a1 a2 : Int32) (sz : Nat) (X : XI ws tys h0 lc bc rc fc dn tl) : Met l yX8_jar wsX8_jar ({ frames := 3, cells := 2, slots := 45, locals := 72 }) (va_Pc [.ref h0, .int a1, .int a2] (fun U => U.heap.size = sz ∧ va_P D vwCl ws U.heap ∧ va_K D vwCl tys U ∧ va_D (fun _ => True) ws ∧ NZ U)) (va_Qi (fun (r : Int32) (_ : Unit) => True) (fun (_ : Unit) (t : State) => ∃ (ws' : va_W) (tys' : List (ClassId × FieldType)), va_P D vwCl ws' t.heap ∧ va_K D vwCl tys' t ∧ va_D (va_A ws sz) ws' ∧ ∃ bc9 : Nat, bc9 ≤ 60 ∧ XI ws' tys' h0 lc bc9 rc fc dn tl) (va_A ws sz)) 2 45 (va_A ws sz) := by
  refine Met.ofW (cc := cX8_jar) (maxL := 6) (ret := (some .int)) (by decide) rfl ?_
  intro p e s m args below meth c s₁ B hml hv
  obtain ⟨rfl, hsz, hP, hK, hD0, hnz⟩ := hv
  have hx := B.exec
  have hb := B.bytes
  have hr := B.returns
  have hts := atoms_spec (ws := wsX8_jar) B.pre
  have hown : s.vm.findClass RX8 = some m.cls := findClass_of_methodNamed B.named
  have hlocks := B.notSynchronized
  subst hsz
  have hD := hD0.self (sz := s.heap.size)
  generalize hAe : va_A ws s.heap.size = A at hD ⊢
  have hA : ∀ q : Nat, s.heap.size ≤ q → A q := fun q h => by rw [← hAe]; exact Or.inr h
  have hS : va_S A s.heap s.heap [] := va_S.rf
  have hsm : sm [7] ws ws := sm.rf ws
  have htx : tyx tys tys := tyx.rf tys
  have hin7 : ∀ w ∈ u_ws RX7 TX7 5, w ∈ wsX8_jar := (fun _ h9 => List.mem_cons_of_mem _ (List.mem_append_left _ (List.mem_append_left _ ((List.mem_append_right _ h9)))))
  have hin8 : ∀ w ∈ u_ws RX8 TX8 15, w ∈ wsX8_jar := (fun _ h9 => List.mem_cons_of_mem _ (List.mem_append_left _ ((List.mem_append_right _ h9))))
  have hl := lv_entry ([.ref h0, .int a1, .int a2]) (n := 6) (Nat.le_of_ble_eq_true rfl)
  rw [lg_entry_eq]
  generalize (lg_sl ([.ref h0, .int a1, .int a2]) ++ List.replicate (6 - (lg_sl ([.ref h0, .int a1, .int a2])).length) Slot.unset).toArray = ls at hl ⊢
  have hl : lv_has ls 6 [(0, .ref h0), (1, .int a1), (2, .int a2)] := hl
  obtain ⟨k0, la, ta, ba, ra, sn, rd, dr, bl, vd, fb, e0, hnum, qla, qta, qba, qra, qsn, qrd, qdr, qbl, qvd, qfb⟩ := id X
  obtain ⟨kta, cta, tta, fta, eta, uta, pta⟩ := id qta
  obtain ⟨kba, cba, tba, fba, eba, uba, pba⟩ := id qba
  obtain ⟨kdr, dg, dq, edr, ⟨kdg, cdg, tdg, fdg, edg, udg⟩, ⟨kdq, cdq, tdq, fdq, edq, udq⟩⟩ := id qdr
  have hbc := hnum.2.1
  refine lv_aload_n hx hb dX8_jar_0 rfl (lv_at hl 0 rfl) ?_
  refine lv_iload_n hx hb dX8_jar_1 rfl (lv_at hl 1 rfl) ?_
  refine va_csq (W.runV (As := [.int a1]) (rest := []) ⟨hx, hb, hml, hown, hts⟩ (s_X8_tankAt l D ws tys h0 k0 _ ta kta cta fta tta a1 e0 rfl eta uta) (cwV 1 hts gX8_jar_X8_tankAt rfl rfl rfl (by decide +kernel) ⟨Nat.le_of_ble_eq_true rfl, Nat.le_of_ble_eq_true rfl⟩) ⟨fun a U g mk q => ⟨q.1, q.2.1, va_K.moved (u := U) (U := U.calling g mk a) (Vm.Alike.refl U.vm) q.2.2⟩, va_recv hK hP (ci := 8) (q0 := k0) rfl e0, fun U hU hW => ⟨rfl, by rw [hU]; exact hP, va_K.moved hW.alike hK⟩⟩ rfl rfl hl.1 rfl (lv_room (Nat.le_of_ble_eq_true rfl)) dX8_jar_2 ⟨Nat.le_of_ble_eq_true rfl, Nat.le_of_ble_eq_true rfl⟩) (fun r_1 k_2 => ?_)
  have hz_5 : r_1 = none ∨ ∃ v, r_1 = some v ∧ oV ws tys v := by
    rcases k_2 with ⟨q, -⟩ | ⟨-, -, q⟩
    · exact Or.inl q
    · rcases r_1 with _ | v
      · exact Or.inl rfl
      · exact Or.inr ⟨v, rfl, pta _ _ q.symm⟩
  rcases hz_5 with rfl | ⟨v_3, rfl, hv_4⟩
  · refine tp_v (y := .null) rfl ?_
    refine lv_astore_nN (lv' := [(3, .null), (0, .ref h0), (1, .int a1), (2, .int a2)]) hx hb dX8_jar_5 rfl hl (by decide) rfl (fun ls hl => ?_)
    refine lv_aload_nN hx hb dX8_jar_6 rfl (lv_at hl 0 rfl) ?_
    refine lv_ifnonnullN hx hb dX8_jar_7 ?_
    refine lv_iconst (v := (-1)) hx hb dX8_jar_10 (by decide) ?_
    refine W.widen (k := 2) (n := 45) (by omega) (by omega) ?_
    exact W.iret (v := (-1)) hx hb hr (fun t ht hW => ⟨⟨(-1), (), rfl, trivial, ws, tys, by rw [ht]; exact hP, va_K.moved hW.alike hK, hD, ⟨bc, by omega, X.sm hsm htx (by decide) (by decide)⟩⟩, hS.F ht⟩) hS.2.2 dX8_jar_11
  obtain ⟨k_7, g_8, x_9, x_10, x_11, x_12, e_13, k_14, c9_15, t_16, f_17, e_18, u_19⟩ := hv_4.sm hsm htx
  refine tp_v (y := .ref v_3) rfl ?_
  refine lv_astore_n (lv' := [(3, .ref v_3), (0, .ref h0), (1, .int a1), (2, .int a2)]) hx hb dX8_jar_5 rfl hl (by decide) rfl (fun ls hl => ?_)
  refine lv_aload_n hx hb dX8_jar_6 rfl (lv_at hl 0 rfl) ?_
  refine lv_ifnonnull (tgt := 12) hx hb dX8_jar_7 (by decide) ?_
  refine lv_iload_n hx hb dX8_jar_12 rfl (lv_at hl 3 rfl) ?_
  refine lv_iconst (v := 1) hx hb dX8_jar_13 (by decide) ?_
  refine lv_aload_n hx hb dX8_jar_14 rfl (lv_at hl 0 rfl) ?_
  refine va_get (D := D) (ci := 7) (v := .int x_9) (C := RX7) (T := TX7) (N := 5) hx hb hts hin7 hown hK hP k_7 e_13 rfl 1 (by decide) (hts (.fieldLink RX8 144 "HoneyHouse$Vessel" "total" "I") (List.mem_of_getElem? (i := 1) rfl)) (fun _ h9 => h9) rfl dX8_jar_15 ?_
  refine vp_callSi (W.runS (As := [.int a2, .int 1, .int x_9]) (rest := []) ⟨hx, hb, hml, hown, hts⟩ (s_X8_isIn l a2 1 x_9) (va_cwS 3 hts gX8_jar_X8_isIn rfl rfl rfl (by decide +kernel) ⟨Nat.le_of_ble_eq_true rfl, Nat.le_of_ble_eq_true rfl⟩) ⟨fun a U g mk q => q, fun U hU hW => ⟨rfl, trivial⟩⟩ rfl rfl hl.1 rfl (lv_room (Nat.le_of_ble_eq_true rfl)) dX8_jar_18 ⟨Nat.le_of_ble_eq_true rfl, Nat.le_of_ble_eq_true rfl⟩) (fun r_20 k_21 => ?_)
  rcases k_21 with ⟨rfl, -⟩ | ⟨rfl, -, -⟩
  · refine lv_if_ne (tgt := 27) hx hb dX8_jar_21 (by decide) (fun c_22 => absurd (by decide) c_22) (fun c_22 => ?_)
    refine lv_bipush (v := (-2)) hx hb dX8_jar_24 (by decide) ?_
    refine W.widen (k := 2) (n := 45) (by omega) (by omega) ?_
    exact W.iret (v := (-2)) hx hb hr (fun t ht hW => ⟨⟨(-2), (), rfl, trivial, ws, tys, by rw [ht]; exact hP, va_K.moved hW.alike hK, hD, ⟨bc, by omega, X.sm hsm htx (by decide) (by decide)⟩⟩, hS.F ht⟩) hS.2.2 dX8_jar_26
  refine lv_if_ne (tgt := 27) hx hb dX8_jar_21 (by decide) (fun c_23 => ?_) (fun c_23 => absurd c_23 (by decide))
  refine lv_aload_n hx hb dX8_jar_27 rfl (lv_at hl 1 rfl) ?_
  refine va_get (D := D) (ci := 8) (v := .int (nI bc)) (C := RX8) (T := TX8) (N := 15) hx hb hts hin8 hown hK hP k0 e0 rfl 11 (by decide) (hts (.fieldLink RX8 170 "HoneyHouse" "batchCount" "I") (List.mem_of_getElem? (i := 2) rfl)) (fun _ h9 => h9) rfl dX8_jar_28 ?_
  refine lv_aload_n hx hb dX8_jar_31 rfl (lv_at hl 1 rfl) ?_
  refine va_get (D := D) (ci := 8) (v := .ref ba) (C := RX8) (T := TX8) (N := 15) hx hb hts hin8 hown hK hP k0 e0 rfl 2 (by decide) (hts (.fieldLink RX8 21 "HoneyHouse" "batches" "[LHoneyHouse$Vessel;") (List.mem_of_getElem? (i := 3) rfl)) (fun _ h9 => h9) rfl dX8_jar_32 ?_
  refine va_alen (v := 60) hx hb hK hP kba tba eba uba rfl dX8_jar_35 ?_
  refine lv_icmp_lt (tgt := 42) hx hb dX8_jar_36 (by decide) (fun c_24 => ?_) (fun c_24 => ?_)
  · have d_25 := n_lt (a := bc) (b := 60) (by omega) (by omega) c_24
    refine va_new (ci := 7) (fs := [.null, .int 0, .int 0, .int 0, .int 0]) (C := RX7) (T := TX7) (N := 5) hx hb hts hin7 tyX7 tyX7_ok hown (hts (.classLink RX8 15 RX7) (List.mem_of_getElem? (i := 4) rfl)) (hts (.instantiable RX7 5) (List.mem_of_getElem? (i := 5) rfl)) (hts (.initialized RX7) (List.mem_of_getElem? (i := 6) rfl)) hK hP hD hS hA rfl (fun j hj => by rcases (show j = 0 ∨ j = 1 ∨ j = 2 ∨ j = 3 ∨ j = 4 by omega) with rfl | rfl | rfl | rfl | rfl <;> rfl) (Nat.le_of_ble_eq_true rfl) (Nat.le_of_ble_eq_true rfl) dX8_jar_42 (fun q_26 H hP hD hS => ?_)
    have le_27 := hsm.len
    have hP : va_P D vwCl (ws ++ [(q_26, .inr (7, [.null, .int 0, .int 0, .int 0, .int 0]))]) H := hP
    have hD : va_D A (ws ++ [(q_26, .inr (7, [.null, .int 0, .int 0, .int 0, .int 0]))]) := hD
    have hm_29 : sm [] ws (ws ++ [(q_26, .inr (7, [.null, .int 0, .int 0, .int 0, .int 0]))]) := sm.app _ _ _
    have e_30 : (ws ++ [(q_26, .inr (7, [.null, .int 0, .int 0, .int 0, .int 0]))])[ws.length]? = some (q_26, .inr (7, [.null, .int 0, .int 0, .int 0, .int 0])) := ap_new _ _
    generalize ws ++ [(q_26, .inr (7, [.null, .int 0, .int 0, .int 0, .int 0]))] = ws_28 at hP hD hm_29 e_30
    have e_31 := hm_29.objK e0 (by decide)
    have e_32 := hm_29.arrQ eta
    have e_33 := hm_29.arrQ eba
    have e_34 := hm_29.objK edr (by decide)
    obtain ⟨f_36, e_35⟩ := hm_29.arrI edg
    obtain ⟨f_38, e_37⟩ := hm_29.arrJ edq
    have e_39 := hm_29.objK e_13 (by decide)
    obtain ⟨f_41, e_40⟩ := hm_29.arrI e_18
    have hsm := hsm.tr (hm_29.mono (fun _ h9 => absurd h9 List.not_mem_nil))
    refine W.widen (k := 1) (n := 5) (by omega) (by omega) ?_
    refine lv_dup hx hb dX8_jar_45 rfl ?_
    refine lv_iload_n hx hb dX8_jar_46 rfl (lv_at hl 2 rfl) ?_
    refine lv_aload_n hx hb dX8_jar_47 rfl (lv_at hl 1 rfl) ?_
    refine va_get (D := D) (ci := 8) (v := .int dn) (C := RX8) (T := TX8) (N := 15) hx hb hts hin8 hown hK hP k0 e_31 rfl 14 (by decide) (hts (.fieldLink RX8 82 "HoneyHouse" "dayNow" "I") (List.mem_of_getElem? (i := 7) rfl)) (fun _ h9 => h9) rfl dX8_jar_48 ?_
    have hFc := free_all hD hS hA
    refine va_callv (va_runI (As := [.int a1, .int dn]) (rest := [.ref q_26]) ⟨hx, hb, hml, hown, hts⟩ (c_X7_init l D ws_28 tys q_26 ws.length a1 dn H.size e_30) (cwI 2 hts gX8_jar_X7_init rfl rfl rfl (hts (.initialized RX7) (List.mem_of_getElem? (i := 6) rfl)) (hts (.methodLink RX8 65 yX7_init) (List.mem_of_getElem? (i := 19) rfl)) (hts (.instanceMethod yX7_init) (List.mem_of_getElem? (i := 20) rfl)) rfl (by decide +kernel) ⟨Nat.le_of_ble_eq_true rfl, Nat.le_of_ble_eq_true rfl⟩) ⟨fun a U g mk q => by obtain ⟨q0, q1, qP, qK, qD⟩ := q; exact ⟨q0, q1, qP, va_K.moved (u := U) (U := U.calling g mk a) (Vm.Alike.refl U.vm) qK, qD⟩, fun U hU hW => ⟨rfl, by rw [hU], by rw [hU]; exact hP, va_K.moved hW.alike hK, hD.weaken (fun _ _ _ _ => trivial)⟩⟩ rfl rfl hl.1 rfl (lv_room (Nat.le_of_ble_eq_true rfl)) dX8_jar_51 ⟨Nat.le_of_ble_eq_true rfl, Nat.le_of_ble_eq_true rfl⟩) hS (fun q _ h => hFc q h) hFc (fun u t H1 locs ht hvm w_42 hB hz1 hk1 hS => ?_)
    obtain ⟨ws_43, ty_44, hm_45, ht_47, hP1, hK1, hD1, hx_46⟩ := hB
    rw [ht] at hP1
    have hK := va_K.moved hvm.symm hK1
    have hD := hD1.weaken (fun _ _ _ h => hFc _ h)
    generalize H1 = H at hP1 hS ⊢
    have hP := hP1
    have e_48 := hm_45.objK (pl_ne e_31 e_30 (by intro h9; simp at h9)) e_31 (by decide)
    have e_49 := hm_45.arrQ (pl_ne e_32 e_30 (by intro h9; simp at h9)) e_32
    have u_50 := ht_47 _ _ uta
    have e_51 := hm_45.arrQ (pl_ne e_33 e_30 (by intro h9; simp at h9)) e_33
    have u_52 := ht_47 _ _ uba
    have e_53 := hm_45.objK (pl_ne e_34 e_30 (by intro h9; simp at h9)) e_34 (by decide)
    obtain ⟨f_55, e_54⟩ := hm_45.arrI (pl_ne e_35 e_30 (by intro h9; simp at h9)) e_35
    have u_56 := ht_47 _ _ udg
    obtain ⟨f_58, e_57⟩ := hm_45.arrJ (pl_ne e_37 e_30 (by intro h9; simp at h9)) e_37
    have u_59 := ht_47 _ _ udq
    have e_60 := hm_45.objK (pl_ne e_39 e_30 (by intro h9; simp at h9)) e_39 (by decide)
    obtain ⟨f_62, e_61⟩ := hm_45.arrI (pl_ne e_40 e_30 (by intro h9; simp at h9)) e_40
    have u_63 := ht_47 _ _ u_19
    have hsm := hsm.trk (hm_45.mono (fun _ h9 => absurd h9 List.not_mem_nil)) le_27
    have htx := htx.tr ht_47
    refine W.widen (k := 2) (n := 45) (by omega) (by omega) ?_
    obtain ⟨k_64, g_65, x_66, x_67, x_68, x_69, e_70, k_71, c9_72, t_73, f_74, e_75, u_76⟩ := hx_46
    refine lv_astore (lv' := [(4, .ref q_26), (3, .ref v_3), (0, .ref h0), (1, .int a1), (2, .int a2)]) hx hb dX8_jar_54 hl (by decide) rfl (fun ls hl => ?_)
    refine lv_aload_n hx hb dX8_jar_56 rfl (lv_at hl 1 rfl) ?_
    refine va_get (D := D) (ci := 7) (v := .int x_10) (C := RX7) (T := TX7) (N := 5) hx hb hts hin7 hown hK hP k_7 e_60 rfl 2 (by decide) (hts (.fieldLink RX8 160 "HoneyHouse$Vessel" "heat" "I") (List.mem_of_getElem? (i := 8) rfl)) (fun _ h9 => h9) rfl dX8_jar_57 ?_
    refine lv_istore (lv' := [(5, .int x_10), (4, .ref q_26), (3, .ref v_3), (0, .ref h0), (1, .int a1), (2, .int a2)]) hx hb dX8_jar_60 hl (by decide) rfl (fun ls hl => ?_)
    refine lv_aload_n hx hb dX8_jar_62 rfl (lv_at hl 3 rfl) ?_
    refine va_get (D := D) (ci := 8) (v := .ref dr) (C := RX8) (T := TX8) (N := 15) hx hb hts hin8 hown hK hP k0 e_48 rfl 6 (by decide) (hts (.fieldLink RX8 47 "HoneyHouse" "draught" "LHoneyHouse$Draught;") (List.mem_of_getElem? (i := 9) rfl)) (fun _ h9 => h9) rfl dX8_jar_63 ?_
    refine lv_aload_n hx hb dX8_jar_66 rfl (lv_at hl 2 rfl) ?_
    refine lv_iload_n hx hb dX8_jar_67 rfl (lv_at hl 5 rfl) ?_
    have hFc := free_all hD hS hA
    refine va_callv (va_runV (As := [.ref v_3, .int a2]) (rest := []) ⟨hx, hb, hml, hown, hts⟩ (a_drawFrom l D ws_43 ty_44 dr kdr dg kdg cdg tdg f_55 dq kdq cdq tdq f_58 v_3 k_7 x_9 x_10 x_11 x_12 g_8 k_14 c9_15 t_16 f_62 a2 H.size e_53 e_54 u_56 e_57 u_59 e_60 e_61 u_63) (cwV 2 hts gX8_jar_X1_drawFrom rfl rfl rfl (by decide +kernel) ⟨Nat.le_of_ble_eq_true rfl, Nat.le_of_ble_eq_true rfl⟩) ⟨fun a U g mk q => by obtain ⟨q0, q1, qP, qK, qD⟩ := q; exact ⟨q0, q1, qP, va_K.moved (u := U) (U := U.calling g mk a) (Vm.Alike.refl U.vm) qK, qD⟩, va_recv hK hP (ci := 1) (q0 := kdr) rfl e_53, fun U hU hW => ⟨rfl, by rw [hU], by rw [hU]; exact hP, va_K.moved hW.alike hK, hD.weaken (fun _ _ _ _ => trivial)⟩⟩ rfl rfl hl.1 rfl (lv_room (Nat.le_of_ble_eq_true rfl)) dX8_jar_68 ⟨Nat.le_of_ble_eq_true rfl, Nat.le_of_ble_eq_true rfl⟩) hS (fun q _ h => hFc q h) hFc (fun u t H1 locs ht hvm w_78 hB hz1 hk1 hS => ?_)
    obtain ⟨ws_79, ty_80, hm_81, ht_83, hP1, hK1, hD1, hx_82⟩ := hB
    rw [ht] at hP1
    have hK := va_K.moved hvm.symm hK1
    have hD := hD1.weaken (fun _ _ _ h => hFc _ h)
    generalize H1 = H at hP1 hS ⊢
    have hP := hP1
    have e_84 := hm_81.objK e_48 (by decide)
    have e_85 := hm_81.arrQ e_49
    have u_86 := ht_83 _ _ u_50
    have e_87 := hm_81.arrQ e_51
    have u_88 := ht_83 _ _ u_52
    have e_89 := hm_81.objK e_53 (by decide)
    obtain ⟨f_91, e_90⟩ := hm_81.arrI e_54
    have u_92 := ht_83 _ _ u_56
    obtain ⟨f_94, e_93⟩ := hm_81.arrJ e_57
    have u_95 := ht_83 _ _ u_59
    obtain ⟨g_97, e_96, h_98⟩ := hm_81.obj e_60
    obtain ⟨z_99, z_100, z_101, z_102, rfl⟩ := smX7 h_98
    obtain ⟨f_104, e_103⟩ := hm_81.arrI e_61
    have u_105 := ht_83 _ _ u_63
    obtain ⟨g_107, e_106, h_108⟩ := hm_81.obj e_70
    obtain ⟨z_109, z_110, z_111, z_112, rfl⟩ := smX7 h_108
    obtain ⟨f_114, e_113⟩ := hm_81.arrI e_75
    have u_115 := ht_83 _ _ u_76
    have hsm := hsm.tr (hm_81.mono (by decide))
    have htx := htx.tr ht_83
    refine lv_aload_n hx hb dX8_jar_71 rfl (lv_at hl 3 rfl) ?_
    refine va_get (D := D) (ci := 8) (v := .ref dr) (C := RX8) (T := TX8) (N := 15) hx hb hts hin8 hown hK hP k0 e_84 rfl 6 (by decide) (hts (.fieldLink RX8 47 "HoneyHouse" "draught" "LHoneyHouse$Draught;") (List.mem_of_getElem? (i := 9) rfl)) (fun _ h9 => h9) rfl dX8_jar_72 ?_
    refine lv_aload hx hb dX8_jar_75 (lv_at hl 1 rfl) ?_
    refine lv_iload hx hb dX8_jar_77 (lv_at hl 0 rfl) ?_
    have hFc := free_all hD hS hA
    refine va_callv (va_runV (As := [.ref q_26, .int x_10]) (rest := []) ⟨hx, hb, hml, hown, hts⟩ (a_fillInto l D ws_79 ty_80 dr kdr dg kdg cdg tdg f_91 dq kdq cdq tdq f_94 q_26 k_64 z_109 z_110 z_111 z_112 g_65 k_71 c9_72 t_73 f_114 x_10 H.size e_89 e_90 u_92 e_93 u_95 e_106 e_113 u_115) (cwV 2 hts gX8_jar_X1_fillInto rfl rfl rfl (by decide +kernel) ⟨Nat.le_of_ble_eq_true rfl, Nat.le_of_ble_eq_true rfl⟩) ⟨fun a U g mk q => by obtain ⟨q0, q1, qP, qK, qD⟩ := q; exact ⟨q0, q1, qP, va_K.moved (u := U) (U := U.calling g mk a) (Vm.Alike.refl U.vm) qK, qD⟩, va_recv hK hP (ci := 1) (q0 := kdr) rfl e_89, fun U hU hW => ⟨rfl, by rw [hU], by rw [hU]; exact hP, va_K.moved hW.alike hK, hD.weaken (fun _ _ _ _ => trivial)⟩⟩ rfl rfl hl.1 rfl (lv_room (Nat.le_of_ble_eq_true rfl)) dX8_jar_79 ⟨Nat.le_of_ble_eq_true rfl, Nat.le_of_ble_eq_true rfl⟩) hS (fun q _ h => hFc q h) hFc (fun u t H1 locs ht hvm w_117 hB hz1 hk1 hS => ?_)
    obtain ⟨ws_118, ty_119, hm_120, ht_122, hP1, hK1, hD1, hx_121⟩ := hB
    rw [ht] at hP1
    have hK := va_K.moved hvm.symm hK1
    have hD := hD1.weaken (fun _ _ _ h => hFc _ h)
    generalize H1 = H at hP1 hS ⊢
    have hP := hP1
    have e_123 := hm_120.objK e_84 (by decide)
    have e_124 := hm_120.arrQ e_85
    have u_125 := ht_122 _ _ u_86
    have e_126 := hm_120.arrQ e_87
    have u_127 := ht_122 _ _ u_88
    have e_128 := hm_120.objK e_89 (by decide)
    obtain ⟨f_130, e_129⟩ := hm_120.arrI e_90
    have u_131 := ht_122 _ _ u_92
    obtain ⟨f_133, e_132⟩ := hm_120.arrJ e_93
    have u_134 := ht_122 _ _ u_95
    obtain ⟨g_136, e_135, h_137⟩ := hm_120.obj e_96
    obtain ⟨z_138, z_139, z_140, z_141, rfl⟩ := smX7 h_137
    obtain ⟨f_143, e_142⟩ := hm_120.arrI e_103
    have u_144 := ht_122 _ _ u_105
    obtain ⟨g_146, e_145, h_147⟩ := hm_120.obj e_106
    obtain ⟨z_148, z_149, z_150, z_151, rfl⟩ := smX7 h_147
    obtain ⟨f_153, e_152⟩ := hm_120.arrI e_113
    have u_154 := ht_122 _ _ u_115
    have hsm := hsm.tr (hm_120.mono (by decide))
    have htx := htx.tr ht_122
    refine lv_aload_n hx hb dX8_jar_82 rfl (lv_at hl 3 rfl) ?_
    refine va_get (D := D) (ci := 8) (v := .ref ba) (C := RX8) (T := TX8) (N := 15) hx hb hts hin8 hown hK hP k0 e_123 rfl 2 (by decide) (hts (.fieldLink RX8 21 "HoneyHouse" "batches" "[LHoneyHouse$Vessel;") (List.mem_of_getElem? (i := 3) rfl)) (fun _ h9 => h9) rfl dX8_jar_83 ?_
    refine lv_aload_n hx hb dX8_jar_86 rfl (lv_at hl 3 rfl) ?_
    refine va_get (D := D) (ci := 8) (v := .int (nI bc)) (C := RX8) (T := TX8) (N := 15) hx hb hts hin8 hown hK hP k0 e_123 rfl 11 (by decide) (hts (.fieldLink RX8 170 "HoneyHouse" "batchCount" "I") (List.mem_of_getElem? (i := 2) rfl)) (fun _ h9 => h9) rfl dX8_jar_87 ?_
    refine lv_aload hx hb dX8_jar_90 (lv_at hl 1 rfl) ?_
    refine va_astq (f := fba) (n := 60) (r := (RX7, TX7, 5)) hx hb hK hP hD hS kba tba k_64 7 e_126 u_127 e_145 rfl (vp_in_nI (n := bc) (by omega) (by omega)) dX8_jar_92 (fun H locs hP hD hS => ?_)
    have hP : va_P D vwCl (ws_118.set kba (ba, .inl (cba, 60, .inr (.inr (.inr (.inr (va_up fba (nI bc).toNatClampNeg (some q_26)))))))) H := hP
    have hD : va_D A (ws_118.set kba (ba, .inl (cba, 60, .inr (.inr (.inr (.inr (va_up fba (nI bc).toNatClampNeg (some q_26)))))))) := hD
    have e_155 := set_o (z := (ba, .inl (cba, 60, .inr (.inr (.inr (.inr (va_up fba (nI bc).toNatClampNeg (some q_26)))))))) e_123 e_126 (by intro h9; simp at h9)
    have cla_156 : aQ (ws_118.set kba (ba, .inl (cba, 60, .inr (.inr (.inr (.inr (va_up fba (nI bc).toNatClampNeg (some q_26)))))))) ty_119 RX2 (oL (ws_118.set kba (ba, .inl (cba, 60, .inr (.inr (.inr (.inr (va_up fba (nI bc).toNatClampNeg (some q_26)))))))) ty_119) la 40 := (qla.sm hsm htx (fun v hv => hv.sm hsm htx)).st e_126 (by decide) (fun v hv => hv.st e_126)
    have cta_157 : aQ (ws_118.set kba (ba, .inl (cba, 60, .inr (.inr (.inr (.inr (va_up fba (nI bc).toNatClampNeg (some q_26)))))))) ty_119 RX7 (oV (ws_118.set kba (ba, .inl (cba, 60, .inr (.inr (.inr (.inr (va_up fba (nI bc).toNatClampNeg (some q_26)))))))) ty_119) ta 10 := (qta.sm hsm htx (fun v hv => hv.sm hsm htx)).st e_126 (by decide) (fun v hv => hv.st e_126)
    have cba_158 : aQ (ws_118.set kba (ba, .inl (cba, 60, .inr (.inr (.inr (.inr (va_up fba (nI bc).toNatClampNeg (some q_26)))))))) ty_119 RX7 (oV (ws_118.set kba (ba, .inl (cba, 60, .inr (.inr (.inr (.inr (va_up fba (nI bc).toNatClampNeg (some q_26)))))))) ty_119) ba 60 := ⟨kba, cba, tba, _, wset_self e_126, u_127, fun j v hj => aup hj (fun hv => ((pba j v hv).sm hsm htx).st e_126) (oV.st (ws := ws_118) (tys := ty_119) (v := q_26) ⟨k_64, g_65, z_148, z_149, z_150, z_151, e_145, ⟨k_71, c9_72, t_73, f_153, e_152, u_154⟩⟩ e_126)⟩
    have cra_159 : aQ (ws_118.set kba (ba, .inl (cba, 60, .inr (.inr (.inr (.inr (va_up fba (nI bc).toNatClampNeg (some q_26)))))))) ty_119 RX3 (oR (ws_118.set kba (ba, .inl (cba, 60, .inr (.inr (.inr (.inr (va_up fba (nI bc).toNatClampNeg (some q_26)))))))) ty_119) ra 16 := (qra.sm hsm htx (fun v hv => hv.sm hsm htx)).st e_126 (by decide) (fun v hv => hv.st e_126)
    have csn_160 : oS (ws_118.set kba (ba, .inl (cba, 60, .inr (.inr (.inr (.inr (va_up fba (nI bc).toNatClampNeg (some q_26)))))))) ty_119 sn := (qsn.sm hsm htx).st e_126
    have cdr_161 : oD (ws_118.set kba (ba, .inl (cba, 60, .inr (.inr (.inr (.inr (va_up fba (nI bc).toNatClampNeg (some q_26)))))))) ty_119 dr := (qdr.sm hsm htx).st e_126
    have cbl_162 : oB (ws_118.set kba (ba, .inl (cba, 60, .inr (.inr (.inr (.inr (va_up fba (nI bc).toNatClampNeg (some q_26)))))))) ty_119 bl := (qbl.sm hsm htx).st e_126
    have cvd_163 : aI (ws_118.set kba (ba, .inl (cba, 60, .inr (.inr (.inr (.inr (va_up fba (nI bc).toNatClampNeg (some q_26)))))))) ty_119 vd 16 := (qvd.sm hsm htx).st e_126
    have cfb_164 : aI (ws_118.set kba (ba, .inl (cba, 60, .inr (.inr (.inr (.inr (va_up fba (nI bc).toNatClampNeg (some q_26)))))))) ty_119 fb 60 := (qfb.sm hsm htx).st e_126
    have crd_165 : oW (ws_118.set kba (ba, .inl (cba, 60, .inr (.inr (.inr (.inr (va_up fba (nI bc).toNatClampNeg (some q_26)))))))) ty_119 rd tl := oW.st (ws := ws_118) (tys := ty_119) (v := rd) (tl := tl) (qrd.sm hsm htx (by decide)) e_126
    generalize ws_118.set kba (ba, .inl (cba, 60, .inr (.inr (.inr (.inr (va_up fba (nI bc).toNatClampNeg (some q_26))))))) = ws_166 at hP hD e_155 cla_156 cta_157 cba_158 cra_159 csn_160 cdr_161 cbl_162 cvd_163 cfb_164 crd_165
    have hs2 : sm [8] ws_166 ws_166 := sm.rf _
    refine lv_aload_n hx hb dX8_jar_93 rfl (lv_at hl 3 rfl) ?_
    refine lv_dup hx hb dX8_jar_94 rfl ?_
    refine va_get (D := D) (ci := 8) (v := .int (nI bc)) (C := RX8) (T := TX8) (N := 15) hx hb hts hin8 hown hK hP k0 e_155 rfl 11 (by decide) (hts (.fieldLink RX8 170 "HoneyHouse" "batchCount" "I") (List.mem_of_getElem? (i := 2) rfl)) (fun _ h9 => h9) rfl dX8_jar_95 ?_
    refine lv_iconst (v := 1) hx hb dX8_jar_98 (by decide) ?_
    refine lv_iadd hx hb dX8_jar_99 ?_
    refine tp_i (y := nI (bc + 1)) (nI_add bc 1) ?_
    refine va_put (D := D) (ci := 8) (v := .int (nI (bc + 1))) (ty := .int) (C := RX8) (T := TX8) (N := 15) hx hb hts hin8 tyX8 tyX8_ok nmX8 hown hK hP hD hS k0 e_155 rfl 11 (by decide) (hts (.fieldLink RX8 170 "HoneyHouse" "batchCount" "I") (List.mem_of_getElem? (i := 2) rfl)) (fun _ h9 => h9) rfl (tyX8_ok 11 (by decide)) rfl rfl (Nat.le_of_ble_eq_true rfl) dX8_jar_100 (fun H locs hP hD hS => ?_)
    have hP : va_P D vwCl (ws_166.set k0 (h0, .inr (8, [.ref la, .ref ta, .ref ba, .ref ra, .ref sn, .ref rd, .ref dr, .ref bl, .ref vd, .ref fb, .int (nI lc), .int (nI (bc + 1)), .int (nI rc), .int (nI fc), .int dn]))) H := hP
    have hD : va_D A (ws_166.set k0 (h0, .inr (8, [.ref la, .ref ta, .ref ba, .ref ra, .ref sn, .ref rd, .ref dr, .ref bl, .ref vd, .ref fb, .int (nI lc), .int (nI (bc + 1)), .int (nI rc), .int (nI fc), .int dn]))) := hD
    have hm_168 : sm [8] ws_166 (ws_166.set k0 (h0, .inr (8, [.ref la, .ref ta, .ref ba, .ref ra, .ref sn, .ref rd, .ref dr, .ref bl, .ref vd, .ref fb, .int (nI lc), .int (nI (bc + 1)), .int (nI rc), .int (nI fc), .int dn]))) := sm.flds e_155 (smF.c (smV.rf _) (smF.c (smV.rf _) (smF.c (smV.rf _) (smF.c (smV.rf _) (smF.c (smV.rf _) (smF.c (smV.rf _) (smF.c (smV.rf _) (smF.c (smV.rf _) (smF.c (smV.rf _) (smF.c (smV.rf _) (smF.c (smV.rf _) (smF.c (smV.i _ _) (smF.c (smV.rf _) (smF.c (smV.rf _) (smF.c (smV.rf _) (rfl)))))))))))))))) (List.mem_singleton.mpr rfl)
    have e_169 : (ws_166.set k0 (h0, .inr (8, [.ref la, .ref ta, .ref ba, .ref ra, .ref sn, .ref rd, .ref dr, .ref bl, .ref vd, .ref fb, .int (nI lc), .int (nI (bc + 1)), .int (nI rc), .int (nI fc), .int dn])))[k0]? = some (h0, .inr (8, [.ref la, .ref ta, .ref ba, .ref ra, .ref sn, .ref rd, .ref dr, .ref bl, .ref vd, .ref fb, .int (nI lc), .int (nI (bc + 1)), .int (nI rc), .int (nI fc), .int dn])) := wset_self e_155
    generalize ws_166.set k0 (h0, .inr (8, [.ref la, .ref ta, .ref ba, .ref ra, .ref sn, .ref rd, .ref dr, .ref bl, .ref vd, .ref fb, .int (nI lc), .int (nI (bc + 1)), .int (nI rc), .int (nI fc), .int dn])) = ws_167 at hP hD hm_168 e_169
    have hs2 := hs2.tr (hm_168.mono (by decide))
    refine lv_aload_n hx hb dX8_jar_103 rfl (lv_at hl 3 rfl) ?_
    refine va_get (D := D) (ci := 8) (v := .int (nI (bc + 1))) (C := RX8) (T := TX8) (N := 15) hx hb hts hin8 hown hK hP k0 e_169 rfl 11 (by decide) (hts (.fieldLink RX8 170 "HoneyHouse" "batchCount" "I") (List.mem_of_getElem? (i := 2) rfl)) (fun _ h9 => h9) rfl dX8_jar_104 ?_
    refine lv_iconst (v := 1) hx hb dX8_jar_107 (by decide) ?_
    refine lv_isub hx hb dX8_jar_108 ?_
    refine tp_i (y := nI ((bc + 1) - 1)) (pk_sub (a := bc + 1) (b := 1) (by omega)) ?_
    refine W.widen (k := 2) (n := 45) (by omega) (by omega) ?_
    exact W.iret (v := nI ((bc + 1) - 1)) hx hb hr (fun t ht hW => ⟨⟨nI ((bc + 1) - 1), (), rfl, trivial, ws_167, ty_119, by rw [ht]; exact hP, va_K.moved hW.alike hK, hD, ⟨bc + 1, by omega, xi_mk e_169 ⟨hnum.1, by omega, hnum.2.2.1, hnum.2.2.2.1, hnum.2.2.2.2⟩ cla_156 cta_157 cba_158 cra_159 csn_160 (crd_165.sm hs2 (tyx.rf _) (by decide)) cdr_161 cbl_162 cvd_163 cfb_164 hs2 (tyx.rf _)⟩⟩, hS.F ht⟩) hS.2.2 dX8_jar_109
  have d_170 := n_nlt (a := bc) (b := 60) (by omega) (by omega) c_24
  refine lv_bipush (v := (-3)) hx hb dX8_jar_39 (by decide) ?_
  refine W.widen (k := 2) (n := 45) (by omega) (by omega) ?_
  exact W.iret (v := (-3)) hx hb hr (fun t ht hW => ⟨⟨(-3), (), rfl, trivial, ws, tys, by rw [ht]; exact hP, va_K.moved hW.alike hK, hD, ⟨bc, by omega, X.sm hsm htx (by decide) (by decide)⟩⟩, hS.F ht⟩) hS.2.2 dX8_jar_41
