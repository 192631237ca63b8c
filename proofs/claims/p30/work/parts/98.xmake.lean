theorem dX8_lot_0 : decode cX8_lot 0 = .ok (.iload_n 1, 1) := by decide +kernel
theorem dX8_lot_1 : decode cX8_lot 1 = .ok (.iconst 0, 1) := by decide +kernel
theorem dX8_lot_2 : decode cX8_lot 2 = .ok (.bipush 9, 2) := by decide +kernel
theorem dX8_lot_4 : decode cX8_lot 4 = .ok (.invokestatic 85, 3) := by decide +kernel
theorem dX8_lot_7 : decode cX8_lot 7 = .ok (.ifCond .eq 51, 3) := by decide +kernel
theorem dX8_lot_10 : decode cX8_lot 10 = .ok (.iload_n 2, 1) := by decide +kernel
theorem dX8_lot_11 : decode cX8_lot 11 = .ok (.iconst 1, 1) := by decide +kernel
theorem dX8_lot_12 : decode cX8_lot 12 = .ok (.ldc 89, 2) := by decide +kernel
theorem dX8_lot_14 : decode cX8_lot 14 = .ok (.invokestatic 85, 3) := by decide +kernel
theorem dX8_lot_17 : decode cX8_lot 17 = .ok (.ifCond .eq 41, 3) := by decide +kernel
theorem dX8_lot_20 : decode cX8_lot 20 = .ok (.iload_n 3, 1) := by decide +kernel
theorem dX8_lot_21 : decode cX8_lot 21 = .ok (.bipush 100, 2) := by decide +kernel
theorem dX8_lot_23 : decode cX8_lot 23 = .ok (.sipush 300, 3) := by decide +kernel
theorem dX8_lot_26 : decode cX8_lot 26 = .ok (.invokestatic 85, 3) := by decide +kernel
theorem dX8_lot_29 : decode cX8_lot 29 = .ok (.ifCond .eq 29, 3) := by decide +kernel
theorem dX8_lot_32 : decode cX8_lot 32 = .ok (.iload 4, 2) := by decide +kernel
theorem dX8_lot_34 : decode cX8_lot 34 = .ok (.iconst 0, 1) := by decide +kernel
theorem dX8_lot_35 : decode cX8_lot 35 = .ok (.sipush 140, 3) := by decide +kernel
theorem dX8_lot_38 : decode cX8_lot 38 = .ok (.invokestatic 85, 3) := by decide +kernel
theorem dX8_lot_41 : decode cX8_lot 41 = .ok (.ifCond .eq 17, 3) := by decide +kernel
theorem dX8_lot_44 : decode cX8_lot 44 = .ok (.iload 5, 2) := by decide +kernel
theorem dX8_lot_46 : decode cX8_lot 46 = .ok (.iconst 0, 1) := by decide +kernel
theorem dX8_lot_47 : decode cX8_lot 47 = .ok (.iconst 3, 1) := by decide +kernel
theorem dX8_lot_48 : decode cX8_lot 48 = .ok (.invokestatic 85, 3) := by decide +kernel
theorem dX8_lot_51 : decode cX8_lot 51 = .ok (.ifCond .eq 7, 3) := by decide +kernel
theorem dX8_lot_54 : decode cX8_lot 54 = .ok (.iconst 1, 1) := by decide +kernel
theorem dX8_lot_55 : decode cX8_lot 55 = .ok (.goto 4, 3) := by decide +kernel
theorem dX8_lot_58 : decode cX8_lot 58 = .ok (.iconst 0, 1) := by decide +kernel
theorem dX8_lot_59 : decode cX8_lot 59 = .ok (.istore 6, 2) := by decide +kernel
theorem dX8_lot_61 : decode cX8_lot 61 = .ok (.iload 6, 2) := by decide +kernel
theorem dX8_lot_63 : decode cX8_lot 63 = .ok (.ifCond .eq 15, 3) := by decide +kernel
theorem dX8_lot_66 : decode cX8_lot 66 = .ok (.aload_n 0, 1) := by decide +kernel
theorem dX8_lot_67 : decode cX8_lot 67 = .ok (.getfield 90, 3) := by decide +kernel
theorem dX8_lot_70 : decode cX8_lot 70 = .ok (.aload_n 0, 1) := by decide +kernel
theorem dX8_lot_71 : decode cX8_lot 71 = .ok (.getfield 11, 3) := by decide +kernel
theorem dX8_lot_74 : decode cX8_lot 74 = .ok (.arraylength, 1) := by decide +kernel
theorem dX8_lot_75 : decode cX8_lot 75 = .ok (.if_icmp .lt 5, 3) := by decide +kernel
theorem dX8_lot_78 : decode cX8_lot 78 = .ok (.iconst (-1), 1) := by decide +kernel
theorem dX8_lot_79 : decode cX8_lot 79 = .ok (.ireturn, 1) := by decide +kernel
theorem dX8_lot_80 : decode cX8_lot 80 = .ok (.aload_n 0, 1) := by decide +kernel
theorem dX8_lot_81 : decode cX8_lot 81 = .ok (.getfield 11, 3) := by decide +kernel
theorem dX8_lot_84 : decode cX8_lot 84 = .ok (.aload_n 0, 1) := by decide +kernel
theorem dX8_lot_85 : decode cX8_lot 85 = .ok (.getfield 90, 3) := by decide +kernel
theorem dX8_lot_88 : decode cX8_lot 88 = .ok (.new 9, 3) := by decide +kernel
theorem dX8_lot_91 : decode cX8_lot 91 = .ok (.dup, 1) := by decide +kernel
theorem dX8_lot_92 : decode cX8_lot 92 = .ok (.iload_n 1, 1) := by decide +kernel
theorem dX8_lot_93 : decode cX8_lot 93 = .ok (.iload_n 2, 1) := by decide +kernel
theorem dX8_lot_94 : decode cX8_lot 94 = .ok (.iload_n 3, 1) := by decide +kernel
theorem dX8_lot_95 : decode cX8_lot 95 = .ok (.iload 4, 2) := by decide +kernel
theorem dX8_lot_97 : decode cX8_lot 97 = .ok (.iload 5, 2) := by decide +kernel
theorem dX8_lot_99 : decode cX8_lot 99 = .ok (.aload_n 0, 1) := by decide +kernel
theorem dX8_lot_100 : decode cX8_lot 100 = .ok (.getfield 33, 3) := by decide +kernel
theorem dX8_lot_103 : decode cX8_lot 103 = .ok (.invokespecial 93, 3) := by decide +kernel
theorem dX8_lot_106 : decode cX8_lot 106 = .ok (.aastore, 1) := by decide +kernel
theorem dX8_lot_107 : decode cX8_lot 107 = .ok (.aload_n 0, 1) := by decide +kernel
theorem dX8_lot_108 : decode cX8_lot 108 = .ok (.dup, 1) := by decide +kernel
theorem dX8_lot_109 : decode cX8_lot 109 = .ok (.getfield 90, 3) := by decide +kernel
theorem dX8_lot_112 : decode cX8_lot 112 = .ok (.iconst 1, 1) := by decide +kernel
theorem dX8_lot_113 : decode cX8_lot 113 = .ok (.iadd, 1) := by decide +kernel
theorem dX8_lot_114 : decode cX8_lot 114 = .ok (.putfield 90, 3) := by decide +kernel
theorem dX8_lot_117 : decode cX8_lot 117 = .ok (.aload_n 0, 1) := by decide +kernel
theorem dX8_lot_118 : decode cX8_lot 118 = .ok (.getfield 90, 3) := by decide +kernel
theorem dX8_lot_121 : decode cX8_lot 121 = .ok (.iconst 1, 1) := by decide +kernel
theorem dX8_lot_122 : decode cX8_lot 122 = .ok (.isub, 1) := by decide +kernel
theorem dX8_lot_123 : decode cX8_lot 123 = .ok (.ireturn, 1) := by decide +kernel
theorem dX8_jar_0 : decode cX8_jar 0 = .ok (.aload_n 0, 1) := by decide +kernel
theorem dX8_jar_1 : decode cX8_jar 1 = .ok (.iload_n 1, 1) := by decide +kernel
theorem dX8_jar_2 : decode cX8_jar 2 = .ok (.invokevirtual 139, 3) := by decide +kernel
theorem dX8_jar_5 : decode cX8_jar 5 = .ok (.astore_n 3, 1) := by decide +kernel
theorem dX8_jar_6 : decode cX8_jar 6 = .ok (.aload_n 3, 1) := by decide +kernel
theorem dX8_jar_7 : decode cX8_jar 7 = .ok (.ifnonnull 5, 3) := by decide +kernel
theorem dX8_jar_10 : decode cX8_jar 10 = .ok (.iconst (-1), 1) := by decide +kernel
theorem dX8_jar_11 : decode cX8_jar 11 = .ok (.ireturn, 1) := by decide +kernel
theorem dX8_jar_12 : decode cX8_jar 12 = .ok (.iload_n 2, 1) := by decide +kernel
theorem dX8_jar_13 : decode cX8_jar 13 = .ok (.iconst 1, 1) := by decide +kernel
theorem dX8_jar_14 : decode cX8_jar 14 = .ok (.aload_n 3, 1) := by decide +kernel
theorem dX8_jar_15 : decode cX8_jar 15 = .ok (.getfield 144, 3) := by decide +kernel
theorem dX8_jar_18 : decode cX8_jar 18 = .ok (.invokestatic 85, 3) := by decide +kernel
theorem dX8_jar_21 : decode cX8_jar 21 = .ok (.ifCond .ne 6, 3) := by decide +kernel
theorem dX8_jar_24 : decode cX8_jar 24 = .ok (.bipush (-2), 2) := by decide +kernel
theorem dX8_jar_26 : decode cX8_jar 26 = .ok (.ireturn, 1) := by decide +kernel
theorem dX8_jar_27 : decode cX8_jar 27 = .ok (.aload_n 0, 1) := by decide +kernel
theorem dX8_jar_28 : decode cX8_jar 28 = .ok (.getfield 170, 3) := by decide +kernel
theorem dX8_jar_31 : decode cX8_jar 31 = .ok (.aload_n 0, 1) := by decide +kernel
theorem dX8_jar_32 : decode cX8_jar 32 = .ok (.getfield 21, 3) := by decide +kernel
theorem dX8_jar_35 : decode cX8_jar 35 = .ok (.arraylength, 1) := by decide +kernel
theorem dX8_jar_36 : decode cX8_jar 36 = .ok (.if_icmp .lt 6, 3) := by decide +kernel
theorem dX8_jar_39 : decode cX8_jar 39 = .ok (.bipush (-3), 2) := by decide +kernel
theorem dX8_jar_41 : decode cX8_jar 41 = .ok (.ireturn, 1) := by decide +kernel
theorem dX8_jar_42 : decode cX8_jar 42 = .ok (.new 15, 3) := by decide +kernel
theorem dX8_jar_45 : decode cX8_jar 45 = .ok (.dup, 1) := by decide +kernel
theorem dX8_jar_46 : decode cX8_jar 46 = .ok (.iload_n 1, 1) := by decide +kernel
theorem dX8_jar_47 : decode cX8_jar 47 = .ok (.aload_n 0, 1) := by decide +kernel
theorem dX8_jar_48 : decode cX8_jar 48 = .ok (.getfield 82, 3) := by decide +kernel
theorem dX8_jar_51 : decode cX8_jar 51 = .ok (.invokespecial 65, 3) := by decide +kernel
theorem dX8_jar_54 : decode cX8_jar 54 = .ok (.astore 4, 2) := by decide +kernel
theorem dX8_jar_56 : decode cX8_jar 56 = .ok (.aload_n 3, 1) := by decide +kernel
theorem dX8_jar_57 : decode cX8_jar 57 = .ok (.getfield 160, 3) := by decide +kernel
theorem dX8_jar_60 : decode cX8_jar 60 = .ok (.istore 5, 2) := by decide +kernel
theorem dX8_jar_62 : decode cX8_jar 62 = .ok (.aload_n 0, 1) := by decide +kernel
theorem dX8_jar_63 : decode cX8_jar 63 = .ok (.getfield 47, 3) := by decide +kernel
theorem dX8_jar_66 : decode cX8_jar 66 = .ok (.aload_n 3, 1) := by decide +kernel
theorem dX8_jar_67 : decode cX8_jar 67 = .ok (.iload_n 2, 1) := by decide +kernel
theorem dX8_jar_68 : decode cX8_jar 68 = .ok (.invokevirtual 163, 3) := by decide +kernel
theorem dX8_jar_71 : decode cX8_jar 71 = .ok (.aload_n 0, 1) := by decide +kernel
theorem dX8_jar_72 : decode cX8_jar 72 = .ok (.getfield 47, 3) := by decide +kernel
theorem dX8_jar_75 : decode cX8_jar 75 = .ok (.aload 4, 2) := by decide +kernel
theorem dX8_jar_77 : decode cX8_jar 77 = .ok (.iload 5, 2) := by decide +kernel
theorem dX8_jar_79 : decode cX8_jar 79 = .ok (.invokevirtual 167, 3) := by decide +kernel
theorem dX8_jar_82 : decode cX8_jar 82 = .ok (.aload_n 0, 1) := by decide +kernel
theorem dX8_jar_83 : decode cX8_jar 83 = .ok (.getfield 21, 3) := by decide +kernel
theorem dX8_jar_86 : decode cX8_jar 86 = .ok (.aload_n 0, 1) := by decide +kernel
theorem dX8_jar_87 : decode cX8_jar 87 = .ok (.getfield 170, 3) := by decide +kernel
theorem dX8_jar_90 : decode cX8_jar 90 = .ok (.aload 4, 2) := by decide +kernel
theorem dX8_jar_92 : decode cX8_jar 92 = .ok (.aastore, 1) := by decide +kernel
theorem dX8_jar_93 : decode cX8_jar 93 = .ok (.aload_n 0, 1) := by decide +kernel
theorem dX8_jar_94 : decode cX8_jar 94 = .ok (.dup, 1) := by decide +kernel
theorem dX8_jar_95 : decode cX8_jar 95 = .ok (.getfield 170, 3) := by decide +kernel
theorem dX8_jar_98 : decode cX8_jar 98 = .ok (.iconst 1, 1) := by decide +kernel
theorem dX8_jar_99 : decode cX8_jar 99 = .ok (.iadd, 1) := by decide +kernel
theorem dX8_jar_100 : decode cX8_jar 100 = .ok (.putfield 170, 3) := by decide +kernel
theorem dX8_jar_103 : decode cX8_jar 103 = .ok (.aload_n 0, 1) := by decide +kernel
theorem dX8_jar_104 : decode cX8_jar 104 = .ok (.getfield 170, 3) := by decide +kernel
theorem dX8_jar_107 : decode cX8_jar 107 = .ok (.iconst 1, 1) := by decide +kernel
theorem dX8_jar_108 : decode cX8_jar 108 = .ok (.isub, 1) := by decide +kernel
theorem dX8_jar_109 : decode cX8_jar 109 = .ok (.ireturn, 1) := by decide +kernel
set_option maxRecDepth 20000 in
theorem ggX8_lot_X8_isIn : GoodIn wsX8_lot wsX8_isIn := goodIn_r _ [11] rfl (by decide +kernel)
set_option maxRecDepth 20000 in
theorem gX8_lot_X8_isIn : GoodIn wsX8_lot (va_wsS RX8 85 yX8_isIn wsX8_isIn) := goodIn_app (goodIn_of _ (by decide +kernel)) ggX8_lot_X8_isIn
set_option maxRecDepth 20000 in
theorem ggX8_lot_X2_init : GoodIn wsX8_lot wsX2_init := goodIn_r _ [14, 15, 16, 17, 18, 19, 20, 21, 22, 23, 24, 25, 26, 27, 28, 29, 30, 31, 32, 33, 34, 35, 36, 37, 38, 39, 40, 41, 42, 43, 44, 45, 46, 47, 48, 49, 50, 51, 52, 53, 69, 70, 71, 72, 73, 74, 75, 76, 77, 78, 79, 80] rfl (by decide +kernel)
set_option maxRecDepth 20000 in
theorem gX8_lot_X2_init : GoodIn wsX8_lot (wsX2_init) := ggX8_lot_X2_init
set_option maxRecDepth 20000 in
theorem ggX8_jar_X8_tankAt : GoodIn wsX8_jar wsX8_tankAt := goodIn_r _ [14, 15, 16, 17, 13, 18, 73, 74, 75, 76, 77, 78, 79, 80, 81, 82, 83, 84, 85, 86, 87] rfl (by decide +kernel)
set_option maxRecDepth 20000 in
theorem gX8_jar_X8_tankAt : GoodIn wsX8_jar (wsV RX8 139 RX8 yX8_tankAt wsX8_tankAt) := goodIn_app (goodIn_of _ (by decide +kernel)) ggX8_jar_X8_tankAt
set_option maxRecDepth 20000 in
theorem ggX8_jar_X8_isIn : GoodIn wsX8_jar wsX8_isIn := goodIn_r _ [18] rfl (by decide +kernel)
set_option maxRecDepth 20000 in
theorem gX8_jar_X8_isIn : GoodIn wsX8_jar (va_wsS RX8 85 yX8_isIn wsX8_isIn) := goodIn_app (goodIn_of _ (by decide +kernel)) ggX8_jar_X8_isIn
set_option maxRecDepth 20000 in
theorem ggX8_jar_X7_init : GoodIn wsX8_jar wsX7_init := goodIn_r _ [21, 22, 23, 24, 25, 26, 27, 28, 68, 69, 70, 71, 72] rfl (by decide +kernel)
set_option maxRecDepth 20000 in
theorem gX8_jar_X7_init : GoodIn wsX8_jar (wsX7_init) := ggX8_jar_X7_init
set_option maxRecDepth 20000 in
theorem ggX8_jar_X1_drawFrom : GoodIn wsX8_jar wsX1_drawFrom := goodIn_r _ [33, 34, 35, 36, 37, 38, 39, 32, 40, 41, 42, 43, 44, 45, 46, 47, 48, 49, 6, 50, 26, 51, 52, 53, 54, 55, 56, 57, 58, 59, 88, 89, 68, 69, 70, 71, 72] rfl (by decide +kernel)
set_option maxRecDepth 20000 in
theorem gX8_jar_X1_drawFrom : GoodIn wsX8_jar (wsV RX8 163 RX1 yX1_drawFrom wsX1_drawFrom) := goodIn_app (goodIn_of _ (by decide +kernel)) ggX8_jar_X1_drawFrom
set_option maxRecDepth 20000 in
theorem ggX8_jar_X1_fillInto : GoodIn wsX8_jar wsX1_fillInto := goodIn_r _ [63, 35, 36, 64, 65, 66, 67, 34, 55, 56, 57, 6, 58, 26, 59, 68, 69, 70, 71, 72, 88, 89] rfl (by decide +kernel)
set_option maxRecDepth 20000 in
theorem gX8_jar_X1_fillInto : GoodIn wsX8_jar (wsV RX8 167 RX1 yX1_fillInto wsX1_fillInto) := goodIn_app (goodIn_of _ (by decide +kernel)) ggX8_jar_X1_fillInto
section XST
variable {ρ : Nat → Nat} {fv : Nat → Nat → Int32} {ws : va_W} {tys : List (ClassId × FieldType)} {kq b : Nat} {c : ClassId} {m : Nat} {g : Nat → Option Nat} {z : Nat × va_E}
theorem aup {g : Nat → Option Nat} {i q j v : Nat} {P : Nat → Prop} (hj : va_up g i (some q) j = some v) (h1 : g j = some v → P v) (h2 : P q) : P v := by
  by_cases h : j = i
  · rw [h, va_up_self] at hj; cases hj; exact h2
  · rw [va_up_ne _ _ h] at hj; exact h1 hj
theorem aI.st {a n : Nat} (h : aI ρ ws tys a n) (eq : ws[kq]? = some (b, .inl (c, m, .inr (.inr (.inr (.inr g)))))) : aI ρ (ws.set kq z) tys a n := by
  obtain ⟨k, c1, t, f, e, u, w⟩ := h
  exact ⟨k, c1, t, f, set_o e eq (by intro h9; simp at h9), u, w⟩
theorem bI.st {a n : Nat} (h : bI ws tys a n) (eq : ws[kq]? = some (b, .inl (c, m, .inr (.inr (.inr (.inr g)))))) : bI (ws.set kq z) tys a n := by
  obtain ⟨k, c1, t, f, e, u⟩ := h
  exact ⟨k, c1, t, f, set_o e eq (by intro h9; simp at h9), u⟩
theorem aJ.st {a n : Nat} (h : aJ ρ ws tys a n) (eq : ws[kq]? = some (b, .inl (c, m, .inr (.inr (.inr (.inr g)))))) : aJ ρ (ws.set kq z) tys a n := by
  obtain ⟨k, c1, t, f, e, u, w⟩ := h
  exact ⟨k, c1, t, f, set_o e eq (by intro h9; simp at h9), u, w⟩
theorem rI.st {a n t0 : Nat} {φ : Nat → Int32} (h : rI ρ ws tys a n t0 φ) (eq : ws[kq]? = some (b, .inl (c, m, .inr (.inr (.inr (.inr g)))))) : rI ρ (ws.set kq z) tys a n t0 φ := by
  obtain ⟨k, c1, t, f, e, u, w, hf⟩ := h
  exact ⟨k, c1, t, f, set_o e eq (by intro h9; simp at h9), u, w, hf⟩
theorem VES.st {v r : Nat} (h : VES ρ fv ws tys v r) (eq : ws[kq]? = some (b, .inl (c, m, .inr (.inr (.inr (.inr g)))))) : VES ρ fv (ws.set kq z) tys v r := by
  obtain ⟨k, q, e, w, a⟩ := h
  exact ⟨k, q, set_o e eq (by intro h9; simp at h9), w, a.st eq⟩
theorem CW.st {a N o cc : Nat} (h : CW ρ fv ws tys a N o cc) (eq : ws[kq]? = some (b, .inl (c, m, .inr (.inr (.inr (.inr g)))))) (hn : N ≠ m) : CW ρ fv (ws.set kq z) tys a N o cc := by
  obtain ⟨k, c1, t, g1, e, u, h0, h1⟩ := h
  refine ⟨k, c1, t, g1, set_o e eq (by intro h9; simp at h9; exact hn h9.2.2.1), u, h0, fun j hj => ?_⟩
  obtain ⟨v, e1, l1⟩ := h1 j hj
  exact ⟨v, e1, l1.st eq⟩
theorem oF.st {a fc : Nat} (h : oF ρ fv ws tys a fc) (eq : ws[kq]? = some (b, .inl (c, m, .inr (.inr (.inr (.inr g)))))) : oF ρ fv (ws.set kq z) tys a fc := by
  obtain ⟨k, c1, t, f, e, u, w, hf⟩ := h
  exact ⟨k, c1, t, f, set_o e eq (by intro h9; simp at h9), u, w, hf⟩
theorem oST.st {v j : Nat} {φ ψ : Nat → Int32} (h : oST ρ ws tys v j φ ψ) (eq : ws[kq]? = some (b, .inl (c, m, .inr (.inr (.inr (.inr g)))))) : oST ρ (ws.set kq z) tys v j φ ψ := by
  obtain ⟨k, q1, q2, e, w, a1, a2⟩ := h
  exact ⟨k, q1, q2, set_o e eq (by intro h9; simp at h9), w, a1.st eq, a2.st eq⟩
theorem oN.st {v : Nat} (h : oN ρ fv ws tys v) (eq : ws[kq]? = some (b, .inl (c, m, .inr (.inr (.inr (.inr g)))))) : oN ρ fv (ws.set kq z) tys v := oST.st h eq
theorem LOT.st {v j : Nat} (h : LOT ρ fv ws tys v j) (eq : ws[kq]? = some (b, .inl (c, m, .inr (.inr (.inr (.inr g)))))) : LOT ρ fv (ws.set kq z) tys v j := by
  obtain ⟨k, lo, hi, st, e, w, a1, a2, a3⟩ := h
  exact ⟨k, lo, hi, st, set_o e eq (by intro h9; simp at h9), w, a1.st eq, a2.st eq, a3.st eq⟩
theorem CL.st {a lc : Nat} (h : CL ρ fv ws tys a lc) (eq : ws[kq]? = some (b, .inl (c, m, .inr (.inr (.inr (.inr g)))))) (hn : 40 ≠ m) : CL ρ fv (ws.set kq z) tys a lc := by
  obtain ⟨k, c1, t, g1, e, u, h0, h1⟩ := h
  refine ⟨k, c1, t, g1, set_o e eq (by intro h9; simp at h9; exact hn h9.2.2.1), u, h0, fun j hj => ?_⟩
  obtain ⟨v, e1, l1⟩ := h1 j hj
  exact ⟨v, e1, l1.st eq⟩
theorem oR.st {v : Nat} (h : oR ρ ws tys v) (eq : ws[kq]? = some (b, .inl (c, m, .inr (.inr (.inr (.inr g)))))) : oR ρ (ws.set kq z) tys v := by
  obtain ⟨k, cd, n, x0, x1, x3, x4, e, w, a1, hn⟩ := h
  exact ⟨k, cd, n, x0, x1, x3, x4, set_o e eq (by intro h9; simp at h9), w, a1.st eq, hn⟩
theorem oD.st {v : Nat} (h : oD ρ ws tys v) (eq : ws[kq]? = some (b, .inl (c, m, .inr (.inr (.inr (.inr g)))))) : oD ρ (ws.set kq z) tys v := by
  obtain ⟨k, q1, q2, e, a1, a2⟩ := h
  exact ⟨k, q1, q2, set_o e eq (by intro h9; simp at h9), a1.st eq, a2.st eq⟩
theorem oB.st {v : Nat} (h : oB ρ ws tys v) (eq : ws[kq]? = some (b, .inl (c, m, .inr (.inr (.inr (.inr g)))))) : oB ρ (ws.set kq z) tys v := by
  obtain ⟨k, q0, q2, q3, q4, q5, q6, q7, x1, x8, x9, x10, x11, x12, x13, e, w, a0, a2, a3, a4, a5, a6, a7⟩ := h
  exact ⟨k, q0, q2, q3, q4, q5, q6, q7, x1, x8, x9, x10, x11, x12, x13, set_o e eq (by intro h9; simp at h9), w, a0.st eq, a2.st eq, a3.st eq, a4.st eq, a5.st eq, a6.st eq, a7.st eq⟩
theorem oW.st {v tl : Nat} (h : oW ρ ws tys v tl) (eq : ws[kq]? = some (b, .inl (c, m, .inr (.inr (.inr (.inr g)))))) : oW ρ (ws.set kq z) tys v tl := by
  obtain ⟨k, tp, cd, kt, bb, x1, x2, x3, x4, x6, x7, y1, y2, y3, e, w, a1, et, wt, a2⟩ := h
  exact ⟨k, tp, cd, kt, bb, x1, x2, x3, x4, x6, x7, y1, y2, y3, set_o e eq (by intro h9; simp at h9), w, a1.st eq, set_o et eq (by intro h9; simp at h9), wt, a2.st eq⟩
theorem aQ.st {C : String} {P P' : Nat → Prop} {a n : Nat} (h : aQ ws tys C P a n) (eq : ws[kq]? = some (b, .inl (c, m, .inr (.inr (.inr (.inr g)))))) (hn : n ≠ m) (hp : ∀ v, P v → P' v) : aQ (ws.set kq z) tys C P' a n := by
  obtain ⟨k, c1, t, g1, e, u, hg⟩ := h
  exact ⟨k, c1, t, g1, set_o e eq (by intro h9; simp at h9; exact hn h9.2.2.1), u, fun j v hj => hp v (hg j v hj)⟩
end XST
set_option maxHeartbeats 4000000 in
/-- a lot made: its cells are kept from now on, and told by the reference's rows behind its own new lot -/
theorem xi_lot {ρ : Nat → Nat} {fv : Nat → Nat → Int32} {ws W w2 w3 : va_W} {tys ty : List (ClassId × FieldType)} {h0 lc bc rc fc tl : Nat} {dn a1 a2 a3 a4 a5 : Int32} {k0 la ta ba ra sn rd dr bl vd fb : Nat}
    (hk0 : k0 < ws.length) (w0 : ρ k0 = 0) (hle0 : ∀ k : Nat, ws.length ≤ k → ρ k = 0) (hnum : lc ≤ 40 ∧ bc ≤ 60 ∧ rc ≤ 16 ∧ fc ≤ 60 ∧ tl ≤ 400) (hlc : lc < 40) (qta : CW ρ fv ws tys ta 10 0 10) (qba : CW ρ fv ws tys ba 60 10 bc) (qra : aQ ws tys RX3 (oR ρ ws tys) ra 16) (qsn : oN ρ fv ws tys sn) (qrd : oW ρ ws tys rd tl) (qdr : oD ρ ws tys dr) (qbl : oB ρ ws tys bl) (qvd : aI ρ ws tys vd 16) (qfb : oF ρ fv ws tys fb fc)
    {kla tla : Nat} {cla : ClassId} {fla : Nat → Option Nat} (ela : W[kla]? = some (la, .inl (cla, 40, .inr (.inr (.inr (.inr fla)))))) (ula : ty[tla]? = some (cla, .object RX2)) (hla0 : ∀ j : Nat, lc ≤ j → fla j = none) (hla1 : ∀ j : Nat, j < lc → ∃ v : Nat, fla j = some v ∧ LOT ρ fv ws tys v j)
    (hsm : sm ρ [] ws W) (htx : tyx tys ty)
    {q K lo hi st g1 g2 kl kh ks k1 k2 t5 t6 t1 t2 : Nat} {cl ch c1 c2 : ClassId} {fl fh f1 f2 fo1 fo2 : Nat → Int32}
    (eq : W[K]? = some (q, .inr (2, [.int a1, .int a2, .int a4, .int a5, .ref lo, .ref hi, .ref st, .int a3, .int a2, .int (payF fo1 fo2 a2 a3)])))
    (rl_ : W[kl]? = some (lo, .inl (cl, 5, .inl fl)) ∧ ty[t5]? = some (cl, .int) ∧ ∀ i : Nat, i < 5 → fl i = 0) (rh : W[kh]? = some (hi, .inl (ch, 5, .inl fh)) ∧ ty[t6]? = some (ch, .int) ∧ ∀ i : Nat, i < 5 → fh i = 1000) (es : W[ks]? = some (st, .inr (5, [.ref g1, .ref g2])))
    (r1 : W[k1]? = some (g1, .inl (c1, 4, .inl f1)) ∧ ty[t1]? = some (c1, .int) ∧ ∀ i : Nat, i < 4 → f1 i = fo1 i) (r2 : W[k2]? = some (g2, .inl (c2, 4, .inl f2)) ∧ ty[t2]? = some (c2, .int) ∧ ∀ i : Nat, i < 4 → f2 i = fo2 i)
    (n0 : ws.length ≤ K) (n1 : K < kl) (n2 : kl < kh) (n3 : kh < ks) (n4 : ks < k1) (n5 : k1 < k2) (ho1 : ∀ i : Nat, i < 4 → fo1 i = fv 8 (2 * i)) (ho2 : ∀ i : Nat, i < 4 → fo2 i = fv 8 (2 * i + 1))
    (hw2 : w2 = W.set kla (la, .inl (cla, 40, .inr (.inr (.inr (.inr (va_up fla (nI lc).toNatClampNeg (some q)))))))) (hs2 : sm (rz [k0]) [8] w2 w3)
    (e0 : w3[k0]? = some (h0, .inr (8, [.ref la, .ref ta, .ref ba, .ref ra, .ref sn, .ref rd, .ref dr, .ref bl, .ref vd, .ref fb, .int (nI (lc + 1)), .int (nI bc), .int (nI rc), .int (nI fc), .int dn]))) :
    ∃ σ : Nat → Nat, ∀ fv2 : Nat → Nat → Int32, lotR fv fv2 lc a1 a2 a3 a4 a5 → XI σ fv2 w3 ty h0 (lc + 1) bc rc fc dn tl := by
  subst hw2
  obtain ⟨σ, hσ⟩ : ∃ f : Nat → Nat, f = fun k => if k = K then 8 * lc + 1 else if k = kl then 8 * lc + 2 else if k = kh then 8 * lc + 3 else if k = ks then 8 * lc + 4 else if k = k1 then 8 * lc + 5 else if k = k2 then 8 * lc + 6 else ρ k := ⟨_, rfl⟩
  have hr : ∀ k : Nat, k ≠ K → k ≠ kl → k ≠ kh → k ≠ ks → k ≠ k1 → k ≠ k2 → σ k = ρ k := fun k x1 x2 x3 x4 x5 x6 => by
    rw [hσ]
    show (if k = K then 8 * lc + 1 else if k = kl then 8 * lc + 2 else if k = kh then 8 * lc + 3 else if k = ks then 8 * lc + 4 else if k = k1 then 8 * lc + 5 else if k = k2 then 8 * lc + 6 else ρ k) = ρ k
    rw [if_neg x1, if_neg x2, if_neg x3, if_neg x4, if_neg x5, if_neg x6]
  have hre : ∀ k : Nat, k < ws.length → σ k = ρ k := fun k hk => hr k (by omega) (by omega) (by omega) (by omega) (by omega) (by omega)
  have y0 : σ K = 8 * lc + 1 := by rw [hσ]; exact if_pos rfl
  have y1 : σ kl = 8 * lc + 2 := by
    rw [hσ]
    show (if kl = K then 8 * lc + 1 else if kl = kl then 8 * lc + 2 else _) = _
    rw [if_neg (by omega), if_pos rfl]
  have y2 : σ kh = 8 * lc + 3 := by
    rw [hσ]
    show (if kh = K then 8 * lc + 1 else if kh = kl then 8 * lc + 2 else if kh = kh then 8 * lc + 3 else _) = _
    rw [if_neg (by omega), if_neg (by omega), if_pos rfl]
  have y3 : σ ks = 8 * lc + 4 := by
    rw [hσ]
    show (if ks = K then 8 * lc + 1 else if ks = kl then 8 * lc + 2 else if ks = kh then 8 * lc + 3 else if ks = ks then 8 * lc + 4 else _) = _
    rw [if_neg (by omega), if_neg (by omega), if_neg (by omega), if_pos rfl]
  have y4 : σ k1 = 8 * lc + 5 := by
    rw [hσ]
    show (if k1 = K then 8 * lc + 1 else if k1 = kl then 8 * lc + 2 else if k1 = kh then 8 * lc + 3 else if k1 = ks then 8 * lc + 4 else if k1 = k1 then 8 * lc + 5 else _) = _
    rw [if_neg (by omega), if_neg (by omega), if_neg (by omega), if_neg (by omega), if_pos rfl]
  have y5 : σ k2 = 8 * lc + 6 := by
    rw [hσ]
    show (if k2 = K then 8 * lc + 1 else if k2 = kl then 8 * lc + 2 else if k2 = kh then 8 * lc + 3 else if k2 = ks then 8 * lc + 4 else if k2 = k1 then 8 * lc + 5 else if k2 = k2 then 8 * lc + 6 else _) = _
    rw [if_neg (by omega), if_neg (by omega), if_neg (by omega), if_neg (by omega), if_neg (by omega), if_pos rfl]
  have s0 : σ k0 = 0 := (hre k0 hk0).trans w0
  have nz : ∀ k : Nat, σ k ≠ 0 → rz [k0] k ≠ 0 := fun k h => rz_o1 (fun x => h (by rw [x]; exact s0))
  have hlw : W.length ≤ w3.length := by
    have h1 := hs2.len
    rw [List.length_set] at h1
    exact h1
  have hww := hsm.len
  have bk2 := (List.getElem?_eq_some_iff.mp r2.1).1
  have cell : ∀ {k : Nat} {x : Nat × va_E}, W[k]? = some x → x ≠ (la, .inl (cla, 40, .inr (.inr (.inr (.inr fla))))) → σ k ≠ 0 → w3[k]? = some x := fun {k x} h hn hz => hs2.keep (nz k hz) (set_o h ela hn)
  have keepL : ∀ v j : Nat, LOT ρ fv ws tys v j → LOT σ fv w3 ty v j := fun v j hL =>
    (((hL.re hre).sm hsm htx (fun k hb h1 h2 => by rw [hre k hb] at h1; omega)).st ela).sm hs2 (tyx.rf _) (fun k _ h1 _ => nz k (by omega))
  have cq : (nI lc).toNatClampNeg = lc := nI_clamp (by omega)
  have hp : payF fo1 fo2 a2 a3 = payF (fun k => fv 8 (2 * k)) (fun k => fv 8 (2 * k + 1)) a2 a3 := payF_congr ho1 ho2
  refine ⟨σ, fun fv2 R => ?_⟩
  obtain ⟨R4, R5, R6, R7, R8, z0, z1, z2, z3, z4, z5, z6, zl, zh, zs, y9', y10', y11', y12', y42'⟩ := R
  have cW : ∀ {a N o cc : Nat}, N ≠ 40 → CW ρ fv ws tys a N o cc → CW σ fv2 w3 ty a N o cc := fun {a N o cc} hn h => (((((h.re hre).sm hsm htx (fun k hb h1 h2 => by rw [hre k hb] at h1; omega)).st ela hn).sm hs2 (tyx.rf _) (fun k _ h1 _ => nz k (by omega))).fvx (fun _ _ _ _ => by rw [y9']) (fun _ _ => by rw [y10']) (fun _ _ => by rw [y11']) (fun _ _ => by rw [y12']))
  have cR : ∀ v : Nat, oR ρ ws tys v → oR σ w3 ty v := fun v hv => ((((hv.re hre).sm hsm htx).st ela).sm hs2 (tyx.rf _))
  have cQ : ∀ {C : String} {P P' : Nat → Prop} {a n : Nat}, n ≠ 40 → aQ ws tys C P a n → (∀ v : Nat, P v → P' v) → aQ w3 ty C P' a n := fun {C P P' a n} hn h hp => ((h.sm hsm htx (fun v hv => hv)).st ela hn (fun v hv => hv)).sm hs2 (tyx.rf _) hp
  refine ⟨k0, la, ta, ba, ra, sn, rd, dr, bl, vd, fb, e0, s0, fun k hk => ?_, ⟨by omega, hnum.2⟩, ⟨kla, cla, tla, va_up fla (nI lc).toNatClampNeg (some q), hs2.arrQ (wset_self ela), ula, fun j hj => ?_, fun j hj => ?_⟩, cW (by decide) qta, cW (by decide) qba, cQ (by decide) qra cR, ?_, ((((qrd.re hre).sm hsm htx (by decide)).st ela).sm hs2 (tyx.rf _) (by decide)), ((((qdr.re hre).sm hsm htx).st ela).sm hs2 (tyx.rf _)), ((((qbl.re hre).sm hsm htx).st ela).sm hs2 (tyx.rf _)), ((((qvd.re hre).sm hsm htx).st ela).sm hs2 (tyx.rf _)), (((((qfb.re hre).sm hsm htx (fun k hb h1 => by rw [hre k hb] at h1; omega)).st ela).sm hs2 (tyx.rf _) (fun k _ h1 => nz k (by omega))).fvx y42')⟩
  · rw [hr k (by omega) (by omega) (by omega) (by omega) (by omega) (by omega)]; exact hle0 k (by omega)
  · rw [cq, va_up_ne _ _ (by omega)]; exact hla0 j (by omega)
  · rcases Nat.lt_or_ge j lc with h | h
    · obtain ⟨v, ev, hL⟩ := hla1 j h
      exact ⟨v, by rw [cq, va_up_ne _ _ (by omega)]; exact ev, (keepL v j hL).fvx (fun i hi => R4 _ (by omega)) (fun i hi => R5 _ (by omega)) (fun i hi => R6 _ (by omega)) (fun i hi => R7 _ (by omega))⟩
    · obtain rfl : j = lc := by omega
      refine ⟨q, by rw [cq]; exact va_up_self _ _ _, K, lo, hi, st, ?_, y0, ⟨kl, cl, t5, fl, cell rl_.1 (by intro h9; simp at h9) (by omega), rl_.2.1, y1, fun i hi => (rl_.2.2 i hi).trans (zl i hi).symm⟩, ⟨kh, ch, t6, fh, cell rh.1 (by intro h9; simp at h9) (by omega), rh.2.1, y2, fun i hi => (rh.2.2 i hi).trans (zh i hi).symm⟩, ks, g1, g2, cell es (by intro h9; simp at h9) (by omega), y3, ⟨k1, c1, t1, f1, cell r1.1 (by intro h9; simp at h9) (by omega), r1.2.1, y4, fun i hi => ((r1.2.2 i hi).trans (ho1 i hi)).trans (zs (2 * i) (by omega)).symm⟩, ⟨k2, c2, t2, f2, cell r2.1 (by intro h9; simp at h9) (by omega), r2.2.1, y5, fun i hi => ((r2.2.2 i hi).trans (ho2 i hi)).trans (zs (2 * i + 1) (by omega)).symm⟩⟩
      rw [z0, z1, z2, z3, z4, z5, z6, ← hp]
      exact cell eq (by intro h9; simp at h9) (by omega)
  · show oST σ w3 ty sn 1000 _ _
    rw [R8]
    exact ((((qsn.re hre).sm hsm htx (fun k hb h1 h2 => by rw [hre k hb] at h1; omega)).st ela).sm hs2 (tyx.rf _) (fun k _ h1 _ => nz k (by omega)))
theorem xi_lc {ρ : Nat → Nat} {fv : Nat → Nat → Int32} {ws : va_W} {tys : List (ClassId × FieldType)} {h0 lc lc2 bc rc fc tl : Nat} {d : Int32} (h : XI ρ fv ws tys h0 lc bc rc fc d tl) (e : lc = lc2) : XI ρ fv ws tys h0 lc2 bc rc fc d tl := e ▸ h
set_option maxHeartbeats 4000000 in
set_option maxRecDepth 100000 in
theorem h_lot (l : Launch) (D : va_G) (ρ : Nat → Nat) (ws : va_W) (tys : List (ClassId × FieldType)) (fv : Nat → Nat → Int32) (h0 lc bc rc fc : Nat) (dn : Int32) (tl : Nat) (a1 a2 a3 a4 a5 : Int32) (sz : Nat) (X : XI ρ fv ws tys h0 lc bc rc fc dn tl) : Met l yX8_lot wsX8_lot ({ frames := 3, cells := 6, slots := 30, locals := 87 }) (va_Pc [.ref h0, .int a1, .int a2, .int a3, .int a4, .int a5] (fun U => U.heap.size = sz ∧ va_P D vwCl ws U.heap ∧ va_K D vwCl tys U ∧ va_D (fun _ => True) ws ∧ NZ U)) (va_Qi (fun (r : Int32) (_ : Unit) => r = if (a1 < 0 ∨ 9 < a1) ∨ (a2 < 1 ∨ 200000 < a2) ∨ (a3 < 100 ∨ 300 < a3) ∨ (a4 < 0 ∨ 140 < a4) ∨ (a5 < 0 ∨ 3 < a5) ∨ lc = 40 then (-1) else nI lc) (fun (_ : Unit) (t : State) => ∃ (ws' : va_W) (tys' : List (ClassId × FieldType)), va_P D vwCl ws' t.heap ∧ va_K D vwCl tys' t ∧ va_D (va_A ws sz) ws' ∧ ((((a1 < 0 ∨ 9 < a1) ∨ (a2 < 1 ∨ 200000 < a2) ∨ (a3 < 100 ∨ 300 < a3) ∨ (a4 < 0 ∨ 140 < a4) ∨ (a5 < 0 ∨ 3 < a5) ∨ lc = 40) ∧ XI ρ fv ws' tys' h0 lc bc rc fc dn tl) ∨ (¬ ((a1 < 0 ∨ 9 < a1) ∨ (a2 < 1 ∨ 200000 < a2) ∨ (a3 < 100 ∨ 300 < a3) ∨ (a4 < 0 ∨ 140 < a4) ∨ (a5 < 0 ∨ 3 < a5) ∨ lc = 40) ∧ ∃ σ : Nat → Nat, ∀ fv2 : Nat → Nat → Int32, lotR fv fv2 lc a1 a2 a3 a4 a5 → XI σ fv2 ws' tys' h0 (lc + 1) bc rc fc dn tl))) (va_A ws sz)) 6 30 (va_A ws sz) := by
  refine Met.ofW (cc := cX8_lot) (maxL := 7) (ret := (some .int)) (by decide) rfl ?_
  intro p e s m args below meth c s₁ B hml hv
  obtain ⟨rfl, hsz, hP, hK, hD0, hnz⟩ := hv
  have hx := B.exec
  have hb := B.bytes
  have hr := B.returns
  have hts := atoms_spec (ws := wsX8_lot) B.pre
  have hown : s.vm.findClass RX8 = some m.cls := findClass_of_methodNamed B.named
  have hlocks := B.notSynchronized
  subst hsz
  have hD := hD0.self (sz := s.heap.size)
  generalize hAe : va_A ws s.heap.size = A at hD ⊢
  have hA : ∀ q : Nat, s.heap.size ≤ q → A q := fun q h => by rw [← hAe]; exact Or.inr h
  have hS : va_S A s.heap s.heap [] := va_S.rf
  have hsm : sm ρ [] ws ws := sm.rf ws
  have htx : tyx tys tys := tyx.rf tys
  have hin2 : ∀ w ∈ u_ws RX2 TX2 10, w ∈ wsX8_lot := (fun _ h9 => List.mem_cons_of_mem _ (List.mem_append_left _ ((List.mem_append_right _ h9))))
  have hin8 : ∀ w ∈ u_ws RX8 TX8 15, w ∈ wsX8_lot := (fun _ h9 => List.mem_cons_of_mem _ (List.mem_append_left _ (List.mem_append_left _ ((List.mem_append_right _ h9)))))
  have hl := lv_entry ([.ref h0, .int a1, .int a2, .int a3, .int a4, .int a5]) (n := 7) (Nat.le_of_ble_eq_true rfl)
  rw [lg_entry_eq]
  generalize (lg_sl ([.ref h0, .int a1, .int a2, .int a3, .int a4, .int a5]) ++ List.replicate (7 - (lg_sl ([.ref h0, .int a1, .int a2, .int a3, .int a4, .int a5])).length) Slot.unset).toArray = ls at hl ⊢
  have hl : lv_has ls 7 [(0, .ref h0), (1, .int a1), (2, .int a2), (3, .int a3), (4, .int a4), (5, .int a5)] := hl
  obtain ⟨k0, la, ta, ba, ra, sn, rd, dr, bl, vd, fb, e0, w0, hle0, hnum, qla, qta, qba, qra, qsn, qrd, qdr, qbl, qvd, qfb⟩ := id X
  obtain ⟨kla, cla, tla, fla, ela, ula, hla0, hla1⟩ := id qla
  have hlc := hnum.1
  obtain ⟨ksn, s1, s2, esn, xsn, ⟨ks1, cs1, ts1, fs1, es1, us1, xs1, gs1⟩, ⟨ks2, cs2, ts2, fs2, es2, us2, xs2, gs2⟩⟩ := id qsn
  have hk0 := (List.getElem?_eq_some_iff.mp e0).1
  refine lv_iload_n hx hb dX8_lot_0 rfl (lv_at hl 1 rfl) ?_
  refine lv_iconst (v := 0) hx hb dX8_lot_1 (by decide) ?_
  refine lv_bipush (v := 9) hx hb dX8_lot_2 (by decide) ?_
  refine vp_callSi (W.runS (As := [.int a1, .int 0, .int 9]) (rest := []) ⟨hx, hb, hml, hown, hts⟩ (s_X8_isIn l a1 0 9) (va_cwS 3 hts gX8_lot_X8_isIn rfl rfl rfl (by decide +kernel) ⟨Nat.le_of_ble_eq_true rfl, Nat.le_of_ble_eq_true rfl⟩) ⟨fun a U g mk q => q, fun U hU hW => ⟨rfl, trivial⟩⟩ rfl rfl hl.1 rfl (lv_room (Nat.le_of_ble_eq_true rfl)) dX8_lot_4 ⟨Nat.le_of_ble_eq_true rfl, Nat.le_of_ble_eq_true rfl⟩) (fun r_1 k_2 => ?_)
  rcases k_2 with ⟨rfl, a_3o⟩ | ⟨rfl, a_3, b_4⟩
  · refine lv_if_eq (tgt := 58) hx hb dX8_lot_7 (by decide) (fun c_5 => ?_) (fun c_5 => absurd (by decide) c_5)
    refine lv_iconst (v := 0) hx hb dX8_lot_58 (by decide) ?_
    refine lv_istore (lv' := [(6, .int 0), (0, .ref h0), (1, .int a1), (2, .int a2), (3, .int a3), (4, .int a4), (5, .int a5)]) hx hb dX8_lot_59 hl (by decide) rfl (fun ls hl => ?_)
    refine lv_iload hx hb dX8_lot_61 (lv_at hl 0 rfl) ?_
    refine lv_if_eq (tgt := 78) hx hb dX8_lot_63 (by decide) (fun c_6 => ?_) (fun c_6 => absurd (by decide) c_6)
    refine lv_iconst (v := (-1)) hx hb dX8_lot_78 (by decide) ?_
    refine W.widen (k := 6) (n := 30) (by omega) (by omega) ?_
    exact W.iret (v := (-1)) hx hb hr (fun t ht hW => ⟨⟨(-1), (), rfl, ((if_pos (Or.inl a_3o)).symm), ws, tys, by rw [ht]; exact hP, va_K.moved hW.alike hK, hD, Or.inl ⟨(Or.inl a_3o), X⟩⟩, hS.F ht⟩) hS.2.2 dX8_lot_79
  refine lv_if_eq (tgt := 58) hx hb dX8_lot_7 (by decide) (fun c_7 => absurd c_7 (by decide)) (fun c_7 => ?_)
  refine lv_iload_n hx hb dX8_lot_10 rfl (lv_at hl 2 rfl) ?_
  refine lv_iconst (v := 1) hx hb dX8_lot_11 (by decide) ?_
  refine lv_ldc hx hb hown (hts (.constant RX8 89 (200000)) (List.mem_of_getElem? (i := 1) rfl)) dX8_lot_12 ?_
  refine vp_callSi (W.runS (As := [.int a2, .int 1, .int 200000]) (rest := []) ⟨hx, hb, hml, hown, hts⟩ (s_X8_isIn l a2 1 200000) (va_cwS 3 hts gX8_lot_X8_isIn rfl rfl rfl (by decide +kernel) ⟨Nat.le_of_ble_eq_true rfl, Nat.le_of_ble_eq_true rfl⟩) ⟨fun a U g mk q => q, fun U hU hW => ⟨rfl, trivial⟩⟩ rfl rfl hl.1 rfl (lv_room (Nat.le_of_ble_eq_true rfl)) dX8_lot_14 ⟨Nat.le_of_ble_eq_true rfl, Nat.le_of_ble_eq_true rfl⟩) (fun r_8 k_9 => ?_)
  rcases k_9 with ⟨rfl, a_10o⟩ | ⟨rfl, a_10, b_11⟩
  · refine lv_if_eq (tgt := 58) hx hb dX8_lot_17 (by decide) (fun c_12 => ?_) (fun c_12 => absurd (by decide) c_12)
    refine lv_iconst (v := 0) hx hb dX8_lot_58 (by decide) ?_
    refine lv_istore (lv' := [(6, .int 0), (0, .ref h0), (1, .int a1), (2, .int a2), (3, .int a3), (4, .int a4), (5, .int a5)]) hx hb dX8_lot_59 hl (by decide) rfl (fun ls hl => ?_)
    refine lv_iload hx hb dX8_lot_61 (lv_at hl 0 rfl) ?_
    refine lv_if_eq (tgt := 78) hx hb dX8_lot_63 (by decide) (fun c_13 => ?_) (fun c_13 => absurd (by decide) c_13)
    refine lv_iconst (v := (-1)) hx hb dX8_lot_78 (by decide) ?_
    refine W.widen (k := 6) (n := 30) (by omega) (by omega) ?_
    exact W.iret (v := (-1)) hx hb hr (fun t ht hW => ⟨⟨(-1), (), rfl, ((if_pos (Or.inr (Or.inl a_10o))).symm), ws, tys, by rw [ht]; exact hP, va_K.moved hW.alike hK, hD, Or.inl ⟨(Or.inr (Or.inl a_10o)), X⟩⟩, hS.F ht⟩) hS.2.2 dX8_lot_79
  refine lv_if_eq (tgt := 58) hx hb dX8_lot_17 (by decide) (fun c_14 => absurd c_14 (by decide)) (fun c_14 => ?_)
  refine lv_iload_n hx hb dX8_lot_20 rfl (lv_at hl 3 rfl) ?_
  refine lv_bipush (v := 100) hx hb dX8_lot_21 (by decide) ?_
  refine lv_sipush (v := 300) hx hb dX8_lot_23 (by decide) ?_
  refine vp_callSi (W.runS (As := [.int a3, .int 100, .int 300]) (rest := []) ⟨hx, hb, hml, hown, hts⟩ (s_X8_isIn l a3 100 300) (va_cwS 3 hts gX8_lot_X8_isIn rfl rfl rfl (by decide +kernel) ⟨Nat.le_of_ble_eq_true rfl, Nat.le_of_ble_eq_true rfl⟩) ⟨fun a U g mk q => q, fun U hU hW => ⟨rfl, trivial⟩⟩ rfl rfl hl.1 rfl (lv_room (Nat.le_of_ble_eq_true rfl)) dX8_lot_26 ⟨Nat.le_of_ble_eq_true rfl, Nat.le_of_ble_eq_true rfl⟩) (fun r_15 k_16 => ?_)
  rcases k_16 with ⟨rfl, a_17o⟩ | ⟨rfl, a_17, b_18⟩
  · refine lv_if_eq (tgt := 58) hx hb dX8_lot_29 (by decide) (fun c_19 => ?_) (fun c_19 => absurd (by decide) c_19)
    refine lv_iconst (v := 0) hx hb dX8_lot_58 (by decide) ?_
    refine lv_istore (lv' := [(6, .int 0), (0, .ref h0), (1, .int a1), (2, .int a2), (3, .int a3), (4, .int a4), (5, .int a5)]) hx hb dX8_lot_59 hl (by decide) rfl (fun ls hl => ?_)
    refine lv_iload hx hb dX8_lot_61 (lv_at hl 0 rfl) ?_
    refine lv_if_eq (tgt := 78) hx hb dX8_lot_63 (by decide) (fun c_20 => ?_) (fun c_20 => absurd (by decide) c_20)
    refine lv_iconst (v := (-1)) hx hb dX8_lot_78 (by decide) ?_
    refine W.widen (k := 6) (n := 30) (by omega) (by omega) ?_
    exact W.iret (v := (-1)) hx hb hr (fun t ht hW => ⟨⟨(-1), (), rfl, ((if_pos (Or.inr (Or.inr (Or.inl a_17o)))).symm), ws, tys, by rw [ht]; exact hP, va_K.moved hW.alike hK, hD, Or.inl ⟨(Or.inr (Or.inr (Or.inl a_17o))), X⟩⟩, hS.F ht⟩) hS.2.2 dX8_lot_79
  refine lv_if_eq (tgt := 58) hx hb dX8_lot_29 (by decide) (fun c_21 => absurd c_21 (by decide)) (fun c_21 => ?_)
  refine lv_iload hx hb dX8_lot_32 (lv_at hl 4 rfl) ?_
  refine lv_iconst (v := 0) hx hb dX8_lot_34 (by decide) ?_
  refine lv_sipush (v := 140) hx hb dX8_lot_35 (by decide) ?_
  refine vp_callSi (W.runS (As := [.int a4, .int 0, .int 140]) (rest := []) ⟨hx, hb, hml, hown, hts⟩ (s_X8_isIn l a4 0 140) (va_cwS 3 hts gX8_lot_X8_isIn rfl rfl rfl (by decide +kernel) ⟨Nat.le_of_ble_eq_true rfl, Nat.le_of_ble_eq_true rfl⟩) ⟨fun a U g mk q => q, fun U hU hW => ⟨rfl, trivial⟩⟩ rfl rfl hl.1 rfl (lv_room (Nat.le_of_ble_eq_true rfl)) dX8_lot_38 ⟨Nat.le_of_ble_eq_true rfl, Nat.le_of_ble_eq_true rfl⟩) (fun r_22 k_23 => ?_)
  rcases k_23 with ⟨rfl, a_24o⟩ | ⟨rfl, a_24, b_25⟩
  · refine lv_if_eq (tgt := 58) hx hb dX8_lot_41 (by decide) (fun c_26 => ?_) (fun c_26 => absurd (by decide) c_26)
    refine lv_iconst (v := 0) hx hb dX8_lot_58 (by decide) ?_
    refine lv_istore (lv' := [(6, .int 0), (0, .ref h0), (1, .int a1), (2, .int a2), (3, .int a3), (4, .int a4), (5, .int a5)]) hx hb dX8_lot_59 hl (by decide) rfl (fun ls hl => ?_)
    refine lv_iload hx hb dX8_lot_61 (lv_at hl 0 rfl) ?_
    refine lv_if_eq (tgt := 78) hx hb dX8_lot_63 (by decide) (fun c_27 => ?_) (fun c_27 => absurd (by decide) c_27)
    refine lv_iconst (v := (-1)) hx hb dX8_lot_78 (by decide) ?_
    refine W.widen (k := 6) (n := 30) (by omega) (by omega) ?_
    exact W.iret (v := (-1)) hx hb hr (fun t ht hW => ⟨⟨(-1), (), rfl, ((if_pos (Or.inr (Or.inr (Or.inr (Or.inl a_24o))))).symm), ws, tys, by rw [ht]; exact hP, va_K.moved hW.alike hK, hD, Or.inl ⟨(Or.inr (Or.inr (Or.inr (Or.inl a_24o)))), X⟩⟩, hS.F ht⟩) hS.2.2 dX8_lot_79
  refine lv_if_eq (tgt := 58) hx hb dX8_lot_41 (by decide) (fun c_28 => absurd c_28 (by decide)) (fun c_28 => ?_)
  refine lv_iload hx hb dX8_lot_44 (lv_at hl 5 rfl) ?_
  refine lv_iconst (v := 0) hx hb dX8_lot_46 (by decide) ?_
  refine lv_iconst (v := 3) hx hb dX8_lot_47 (by decide) ?_
  refine vp_callSi (W.runS (As := [.int a5, .int 0, .int 3]) (rest := []) ⟨hx, hb, hml, hown, hts⟩ (s_X8_isIn l a5 0 3) (va_cwS 3 hts gX8_lot_X8_isIn rfl rfl rfl (by decide +kernel) ⟨Nat.le_of_ble_eq_true rfl, Nat.le_of_ble_eq_true rfl⟩) ⟨fun a U g mk q => q, fun U hU hW => ⟨rfl, trivial⟩⟩ rfl rfl hl.1 rfl (lv_room (Nat.le_of_ble_eq_true rfl)) dX8_lot_48 ⟨Nat.le_of_ble_eq_true rfl, Nat.le_of_ble_eq_true rfl⟩) (fun r_29 k_30 => ?_)
  rcases k_30 with ⟨rfl, a_31o⟩ | ⟨rfl, a_31, b_32⟩
  · refine lv_if_eq (tgt := 58) hx hb dX8_lot_51 (by decide) (fun c_33 => ?_) (fun c_33 => absurd (by decide) c_33)
    refine lv_iconst (v := 0) hx hb dX8_lot_58 (by decide) ?_
    refine lv_istore (lv' := [(6, .int 0), (0, .ref h0), (1, .int a1), (2, .int a2), (3, .int a3), (4, .int a4), (5, .int a5)]) hx hb dX8_lot_59 hl (by decide) rfl (fun ls hl => ?_)
    refine lv_iload hx hb dX8_lot_61 (lv_at hl 0 rfl) ?_
    refine lv_if_eq (tgt := 78) hx hb dX8_lot_63 (by decide) (fun c_34 => ?_) (fun c_34 => absurd (by decide) c_34)
    refine lv_iconst (v := (-1)) hx hb dX8_lot_78 (by decide) ?_
    refine W.widen (k := 6) (n := 30) (by omega) (by omega) ?_
    exact W.iret (v := (-1)) hx hb hr (fun t ht hW => ⟨⟨(-1), (), rfl, ((if_pos (Or.inr (Or.inr (Or.inr (Or.inr (Or.inl a_31o)))))).symm), ws, tys, by rw [ht]; exact hP, va_K.moved hW.alike hK, hD, Or.inl ⟨(Or.inr (Or.inr (Or.inr (Or.inr (Or.inl a_31o))))), X⟩⟩, hS.F ht⟩) hS.2.2 dX8_lot_79
  refine lv_if_eq (tgt := 58) hx hb dX8_lot_51 (by decide) (fun c_35 => absurd c_35 (by decide)) (fun c_35 => ?_)
  refine lv_iconst (v := 1) hx hb dX8_lot_54 (by decide) ?_
  refine lv_goto (tgt := 59) hx hb dX8_lot_55 (by decide) ?_
  refine lv_istore (lv' := [(6, .int 1), (0, .ref h0), (1, .int a1), (2, .int a2), (3, .int a3), (4, .int a4), (5, .int a5)]) hx hb dX8_lot_59 hl (by decide) rfl (fun ls hl => ?_)
  refine lv_iload hx hb dX8_lot_61 (lv_at hl 0 rfl) ?_
  refine lv_if_eq (tgt := 78) hx hb dX8_lot_63 (by decide) (fun c_36 => absurd c_36 (by decide)) (fun c_36 => ?_)
  refine lv_aload_n hx hb dX8_lot_66 rfl (lv_at hl 1 rfl) ?_
  refine va_get (D := D) (ci := 8) (v := .int (nI lc)) (C := RX8) (T := TX8) (N := 15) hx hb hts hin8 hown hK hP k0 e0 rfl 10 (by decide) (hts (.fieldLink RX8 90 "HoneyHouse" "lotCount" "I") (List.mem_of_getElem? (i := 2) rfl)) (fun _ h9 => h9) rfl dX8_lot_67 ?_
  refine lv_aload_n hx hb dX8_lot_70 rfl (lv_at hl 1 rfl) ?_
  refine va_get (D := D) (ci := 8) (v := .ref la) (C := RX8) (T := TX8) (N := 15) hx hb hts hin8 hown hK hP k0 e0 rfl 0 (by decide) (hts (.fieldLink RX8 11 "HoneyHouse" "lots" "[LHoneyHouse$Lot;") (List.mem_of_getElem? (i := 3) rfl)) (fun _ h9 => h9) rfl dX8_lot_71 ?_
  refine va_alen (v := 40) hx hb hK hP kla tla ela ula rfl dX8_lot_74 ?_
  refine lv_icmp_lt (tgt := 80) hx hb dX8_lot_75 (by decide) (fun c_37 => ?_) (fun c_37 => ?_)
  · have d_38 := n_lt (a := lc) (b := 40) (by omega) (by omega) c_37
    refine lv_aload_n hx hb dX8_lot_80 rfl (lv_at hl 1 rfl) ?_
    refine va_get (D := D) (ci := 8) (v := .ref la) (C := RX8) (T := TX8) (N := 15) hx hb hts hin8 hown hK hP k0 e0 rfl 0 (by decide) (hts (.fieldLink RX8 11 "HoneyHouse" "lots" "[LHoneyHouse$Lot;") (List.mem_of_getElem? (i := 3) rfl)) (fun _ h9 => h9) rfl dX8_lot_81 ?_
    refine lv_aload_n hx hb dX8_lot_84 rfl (lv_at hl 1 rfl) ?_
    refine va_get (D := D) (ci := 8) (v := .int (nI lc)) (C := RX8) (T := TX8) (N := 15) hx hb hts hin8 hown hK hP k0 e0 rfl 10 (by decide) (hts (.fieldLink RX8 90 "HoneyHouse" "lotCount" "I") (List.mem_of_getElem? (i := 2) rfl)) (fun _ h9 => h9) rfl dX8_lot_85 ?_
    refine va_new (ci := 2) (fs := [.int 0, .int 0, .int 0, .int 0, .null, .null, .null, .int 0, .int 0, .int 0]) (C := RX2) (T := TX2) (N := 10) hx hb hts hin2 tyX2 tyX2_ok hown (hts (.classLink RX8 9 RX2) (List.mem_of_getElem? (i := 4) rfl)) (hts (.instantiable RX2 10) (List.mem_of_getElem? (i := 5) rfl)) (hts (.initialized RX2) (List.mem_of_getElem? (i := 6) rfl)) hK hP hD hS hA rfl (fun j hj => by rcases (show j = 0 ∨ j = 1 ∨ j = 2 ∨ j = 3 ∨ j = 4 ∨ j = 5 ∨ j = 6 ∨ j = 7 ∨ j = 8 ∨ j = 9 by omega) with rfl | rfl | rfl | rfl | rfl | rfl | rfl | rfl | rfl | rfl <;> rfl) (Nat.le_of_ble_eq_true rfl) (Nat.le_of_ble_eq_true rfl) dX8_lot_88 (fun q_39 H hP hD hS => ?_)
    have le_40 := hsm.len
    have hP : va_P D vwCl (ws ++ [(q_39, .inr (2, [.int 0, .int 0, .int 0, .int 0, .null, .null, .null, .int 0, .int 0, .int 0]))]) H := hP
    have hD : va_D A (ws ++ [(q_39, .inr (2, [.int 0, .int 0, .int 0, .int 0, .null, .null, .null, .int 0, .int 0, .int 0]))]) := hD
    have hm_42 : sm ρ [] ws (ws ++ [(q_39, .inr (2, [.int 0, .int 0, .int 0, .int 0, .null, .null, .null, .int 0, .int 0, .int 0]))]) := sm.app _ _ _ _
    have e_43 : (ws ++ [(q_39, .inr (2, [.int 0, .int 0, .int 0, .int 0, .null, .null, .null, .int 0, .int 0, .int 0]))])[ws.length]? = some (q_39, .inr (2, [.int 0, .int 0, .int 0, .int 0, .null, .null, .null, .int 0, .int 0, .int 0])) := ap_new _ _
    have hm_44 : sm (fun _ => 1) [] ws (ws ++ [(q_39, .inr (2, [.int 0, .int 0, .int 0, .int 0, .null, .null, .null, .int 0, .int 0, .int 0]))]) := sm.app _ _ _ _
    generalize ws ++ [(q_39, .inr (2, [.int 0, .int 0, .int 0, .int 0, .null, .null, .null, .int 0, .int 0, .int 0]))] = ws_41 at hP hD hm_42 hm_44 e_43
    have e_45 := hm_44.keep Nat.one_ne_zero e0
    have e_46 := hm_44.keep Nat.one_ne_zero ela
    have e_47 := hm_44.keep Nat.one_ne_zero esn
    have e_48 := hm_44.keep Nat.one_ne_zero es1
    have e_49 := hm_44.keep Nat.one_ne_zero es2
    have hsm := hsm.tr (hm_42.mono (fun _ h9 => absurd h9 List.not_mem_nil))
    refine W.widen (k := 1) (n := 10) (by omega) (by omega) ?_
    refine lv_dup hx hb dX8_lot_91 rfl ?_
    refine lv_iload_n hx hb dX8_lot_92 rfl (lv_at hl 2 rfl) ?_
    refine lv_iload_n hx hb dX8_lot_93 rfl (lv_at hl 3 rfl) ?_
    refine lv_iload_n hx hb dX8_lot_94 rfl (lv_at hl 4 rfl) ?_
    refine lv_iload hx hb dX8_lot_95 (lv_at hl 5 rfl) ?_
    refine lv_iload hx hb dX8_lot_97 (lv_at hl 6 rfl) ?_
    refine lv_aload_n hx hb dX8_lot_99 rfl (lv_at hl 1 rfl) ?_
    refine va_get (D := D) (ci := 8) (v := .ref sn) (C := RX8) (T := TX8) (N := 15) hx hb hts hin8 hown hK hP k0 e_45 rfl 4 (by decide) (hts (.fieldLink RX8 33 "HoneyHouse" "stepsNow" "LHoneyHouse$Steps;") (List.mem_of_getElem? (i := 7) rfl)) (fun _ h9 => h9) rfl dX8_lot_100 ?_
    have hFc := free_all hD hS hA
    refine va_callv (va_runI (As := [.int a1, .int a2, .int a3, .int a4, .int a5, .ref sn]) (rest := [.ref q_39, .int (nI lc), .ref la]) ⟨hx, hb, hml, hown, hts⟩ (c_X2_init l D ρ ws_41 tys q_39 ws.length a1 a2 a3 a4 a5 sn ksn s1 ks1 s2 ks2 cs1 cs2 ts1 ts2 fs1 fs2 H.size e_43 e_47 e_48 us1 e_49 us2 (fun k9 h9 => hle0 k9 (Nat.le_trans hsm.len h9))) (cwI 6 hts gX8_lot_X2_init rfl rfl rfl (hts (.initialized RX2) (List.mem_of_getElem? (i := 6) rfl)) (hts (.methodLink RX8 93 yX2_init) (List.mem_of_getElem? (i := 12) rfl)) (hts (.instanceMethod yX2_init) (List.mem_of_getElem? (i := 13) rfl)) rfl (by decide +kernel) ⟨Nat.le_of_ble_eq_true rfl, Nat.le_of_ble_eq_true rfl⟩) ⟨fun a U g mk q => by obtain ⟨q0, q1, qP, qK, qD, qZ⟩ := q; exact ⟨q0, q1, qP, va_K.moved (u := U) (U := U.calling g mk a) (Vm.Alike.refl U.vm) qK, qD, NZ.same rfl qZ⟩, fun U hU hW => ⟨rfl, by rw [hU], by rw [hU]; exact hP, va_K.moved hW.alike hK, hD.weaken (fun _ _ _ _ => trivial), NZ.warm hW hnz⟩⟩ rfl rfl hl.1 rfl (lv_room (Nat.le_of_ble_eq_true rfl)) dX8_lot_103 ⟨Nat.le_of_ble_eq_true rfl, Nat.le_of_ble_eq_true rfl⟩) hS (fun q _ h => hFc q h) hFc (fun u t H1 locs ht hvm w_50 hB hz1 hk1 hS => ?_)
    obtain ⟨ws_51, ty_52, hm_53, ht_55, hP1, hK1, hD1, hx_54⟩ := hB
    rw [ht] at hP1
    have hK := va_K.moved hvm.symm hK1
    have hD := hD1.weaken (fun _ _ _ h => hFc _ h)
    generalize H1 = H at hP1 hS ⊢
    have hP := hP1
    have e_56 := hm_53.objK (pl_ne e_45 e_43 (by intro h9; simp at h9)) e_45 (by decide)
    have e_57 := hm_53.arrQ (pl_ne e_46 e_43 (by intro h9; simp at h9)) e_46
    have u_58 := ht_55 _ _ ula
    have e_59 := hm_53.keep (pl_ne e_47 e_43 (by intro h9; simp at h9)) (by rw [xsn]; omega) e_47
    have e_60 := hm_53.keep (pl_ne e_48 e_43 (by intro h9; simp at h9)) (by rw [xs1]; omega) e_48
    have u_61 := ht_55 _ _ us1
    have e_62 := hm_53.keep (pl_ne e_49 e_43 (by intro h9; simp at h9)) (by rw [xs2]; omega) e_49
    have u_63 := ht_55 _ _ us2
    have lt_64 := (List.getElem?_eq_some_iff.mp e_43).1
    have le_65 := hsm.len
    have hsm := hsm.trk (hm_53.mono (fun _ h9 => absurd h9 List.not_mem_nil)) le_40
    have htx := htx.tr ht_55
    refine W.widen (k := 6) (n := 30) (by omega) (by omega) ?_
    obtain ⟨lo_66, hi_67, st_68, ga_69, gb_70, kl_71, kh_72, ks_73, ka_74, kb_75, cl_76, ch_77, ca_78, cb_79, t5_80, t6_81, ta_82, tb_83, fl_84, fh_85, fa_86, fb_87, eo_88, rl_89, rh_90, es_91, ra_92, rb_93, na_94, nb_95, nc_96, nd_97, ne_98⟩ := hx_54
    refine va_astq (f := fla) (n := 40) (r := (RX2, TX2, 10)) hx hb hK hP hD hS kla tla ws.length 2 e_57 u_58 eo_88 rfl (vp_in_nI (n := lc) (by omega) (by omega)) dX8_lot_106 (fun H locs hP hD hS => ?_)
    have hP : va_P D vwCl (ws_51.set kla (la, .inl (cla, 40, .inr (.inr (.inr (.inr (va_up fla (nI lc).toNatClampNeg (some q_39)))))))) H := hP
    have hD : va_D A (ws_51.set kla (la, .inl (cla, 40, .inr (.inr (.inr (.inr (va_up fla (nI lc).toNatClampNeg (some q_39)))))))) := hD
    have e_99 := set_o (z := (la, .inl (cla, 40, .inr (.inr (.inr (.inr (va_up fla (nI lc).toNatClampNeg (some q_39)))))))) e_56 e_57 (by intro h9; simp at h9)
    have hsm0 := hsm
    obtain ⟨ws_100, hw2⟩ : ∃ w9 : va_W, w9 = ws_51.set kla (la, .inl (cla, 40, .inr (.inr (.inr (.inr (va_up fla (nI lc).toNatClampNeg (some q_39))))))) := ⟨_, rfl⟩
    rw [← hw2] at hP hD e_99
    have hs2 : sm (rz [k0]) [8] ws_100 ws_100 := sm.rf _
    refine lv_aload_n hx hb dX8_lot_107 rfl (lv_at hl 1 rfl) ?_
    refine lv_dup hx hb dX8_lot_108 rfl ?_
    refine va_get (D := D) (ci := 8) (v := .int (nI lc)) (C := RX8) (T := TX8) (N := 15) hx hb hts hin8 hown hK hP k0 e_99 rfl 10 (by decide) (hts (.fieldLink RX8 90 "HoneyHouse" "lotCount" "I") (List.mem_of_getElem? (i := 2) rfl)) (fun _ h9 => h9) rfl dX8_lot_109 ?_
    refine lv_iconst (v := 1) hx hb dX8_lot_112 (by decide) ?_
    refine lv_iadd hx hb dX8_lot_113 ?_
    refine tp_i (y := nI (lc + 1)) (nI_add lc 1) ?_
    refine va_put (D := D) (ci := 8) (v := .int (nI (lc + 1))) (ty := .int) (C := RX8) (T := TX8) (N := 15) hx hb hts hin8 tyX8 tyX8_ok nmX8 hown hK hP hD hS k0 e_99 rfl 10 (by decide) (hts (.fieldLink RX8 90 "HoneyHouse" "lotCount" "I") (List.mem_of_getElem? (i := 2) rfl)) (fun _ h9 => h9) rfl (tyX8_ok 10 (by decide)) rfl rfl (Nat.le_of_ble_eq_true rfl) dX8_lot_114 (fun H locs hP hD hS => ?_)
    have hP : va_P D vwCl (ws_100.set k0 (h0, .inr (8, [.ref la, .ref ta, .ref ba, .ref ra, .ref sn, .ref rd, .ref dr, .ref bl, .ref vd, .ref fb, .int (nI (lc + 1)), .int (nI bc), .int (nI rc), .int (nI fc), .int dn]))) H := hP
    have hD : va_D A (ws_100.set k0 (h0, .inr (8, [.ref la, .ref ta, .ref ba, .ref ra, .ref sn, .ref rd, .ref dr, .ref bl, .ref vd, .ref fb, .int (nI (lc + 1)), .int (nI bc), .int (nI rc), .int (nI fc), .int dn]))) := hD
    have hm_102 : sm (rz [k0]) [8] ws_100 (ws_100.set k0 (h0, .inr (8, [.ref la, .ref ta, .ref ba, .ref ra, .ref sn, .ref rd, .ref dr, .ref bl, .ref vd, .ref fb, .int (nI (lc + 1)), .int (nI bc), .int (nI rc), .int (nI fc), .int dn]))) := sm.flds e_99 (smF.c (smV.rf _) (smF.c (smV.rf _) (smF.c (smV.rf _) (smF.c (smV.rf _) (smF.c (smV.rf _) (smF.c (smV.rf _) (smF.c (smV.rf _) (smF.c (smV.rf _) (smF.c (smV.rf _) (smF.c (smV.rf _) (smF.c (smV.i _ _) (smF.c (smV.rf _) (smF.c (smV.rf _) (smF.c (smV.rf _) (smF.c (smV.rf _) (rfl)))))))))))))))) (List.mem_singleton.mpr rfl) (rz_in (by simp))
    have e_103 : (ws_100.set k0 (h0, .inr (8, [.ref la, .ref ta, .ref ba, .ref ra, .ref sn, .ref rd, .ref dr, .ref bl, .ref vd, .ref fb, .int (nI (lc + 1)), .int (nI bc), .int (nI rc), .int (nI fc), .int dn])))[k0]? = some (h0, .inr (8, [.ref la, .ref ta, .ref ba, .ref ra, .ref sn, .ref rd, .ref dr, .ref bl, .ref vd, .ref fb, .int (nI (lc + 1)), .int (nI bc), .int (nI rc), .int (nI fc), .int dn])) := wset_self e_99
    generalize ws_100.set k0 (h0, .inr (8, [.ref la, .ref ta, .ref ba, .ref ra, .ref sn, .ref rd, .ref dr, .ref bl, .ref vd, .ref fb, .int (nI (lc + 1)), .int (nI bc), .int (nI rc), .int (nI fc), .int dn])) = ws_101 at hP hD hm_102 e_103
    have hs2 := hs2.tr (hm_102.mono (by decide))
    refine lv_aload_n hx hb dX8_lot_117 rfl (lv_at hl 1 rfl) ?_
    refine va_get (D := D) (ci := 8) (v := .int (nI (lc + 1))) (C := RX8) (T := TX8) (N := 15) hx hb hts hin8 hown hK hP k0 e_103 rfl 10 (by decide) (hts (.fieldLink RX8 90 "HoneyHouse" "lotCount" "I") (List.mem_of_getElem? (i := 2) rfl)) (fun _ h9 => h9) rfl dX8_lot_118 ?_
    refine lv_iconst (v := 1) hx hb dX8_lot_121 (by decide) ?_
    refine lv_isub hx hb dX8_lot_122 ?_
    refine tp_i (y := nI ((lc + 1) - 1)) (pk_sub (a := lc + 1) (b := 1) (by omega)) ?_
    refine W.widen (k := 6) (n := 30) (by omega) (by omega) ?_
    exact W.iret (v := nI ((lc + 1) - 1)) hx hb hr (fun t ht hW => ⟨⟨nI ((lc + 1) - 1), (), rfl, ((if_neg (fun h => Or.elim h (fun h => Or.elim h a_3 b_4) (fun h => Or.elim h (fun h => Or.elim h a_10 b_11) (fun h => Or.elim h (fun h => Or.elim h a_17 b_18) (fun h => Or.elim h (fun h => Or.elim h a_24 b_25) (fun h => Or.elim h (fun h => Or.elim h a_31 b_32) (fun h9 => absurd h9 (by omega)))))))).symm), ws_101, ty_52, by rw [ht]; exact hP, va_K.moved hW.alike hK, hD, Or.inr ⟨(fun h => Or.elim h (fun h => Or.elim h a_3 b_4) (fun h => Or.elim h (fun h => Or.elim h a_10 b_11) (fun h => Or.elim h (fun h => Or.elim h a_17 b_18) (fun h => Or.elim h (fun h => Or.elim h a_24 b_25) (fun h => Or.elim h (fun h => Or.elim h a_31 b_32) (fun h9 => absurd h9 (by omega))))))), xi_lot hk0 w0 hle0 hnum (by omega) qta qba qra qsn qrd qdr qbl qvd qfb e_57 u_58 hla0 hla1 hsm0 htx eo_88 rl_89 rh_90 es_91 ra_92 rb_93 (by omega) (by omega) (by omega) (by omega) (by omega) (by omega) gs1 gs2 hw2 hs2 e_103⟩⟩, hS.F ht⟩) hS.2.2 dX8_lot_123
  have d_104 := n_nlt (a := lc) (b := 40) (by omega) (by omega) c_37
  refine lv_iconst (v := (-1)) hx hb dX8_lot_78 (by decide) ?_
  refine W.widen (k := 6) (n := 30) (by omega) (by omega) ?_
  exact W.iret (v := (-1)) hx hb hr (fun t ht hW => ⟨⟨(-1), (), rfl, ((if_pos (Or.inr (Or.inr (Or.inr (Or.inr (Or.inr ((show lc = 40 by omega)))))))).symm), ws, tys, by rw [ht]; exact hP, va_K.moved hW.alike hK, hD, Or.inl ⟨(Or.inr (Or.inr (Or.inr (Or.inr (Or.inr ((show lc = 40 by omega))))))), X⟩⟩, hS.F ht⟩) hS.2.2 dX8_lot_79
theorem sm1_0 : ∀ n : Nat, sm1 (fun _ => 0) n = 0
  | 0 => rfl
  | n + 1 => by show sm1 (fun _ => 0) n + 0 = 0; rw [sm1_0 n]; rfl
set_option maxHeartbeats 4000000 in
/-- a batch made: its cells are kept from now on; the tank that it is drawn from is told anew -/
theorem xi_jar {ρ : Nat → Nat} {fv : Nat → Nat → Int32} {ws W w2 w3 : va_W} {tys ty : List (ClassId × FieldType)} {h0 lc bc rc fc tl : Nat} {dn a1 a2 : Int32} {k0 la ta ba ra sn rd dr bl vd fb T : Nat} (eT9 : a1.toNatClampNeg = T)
    (hk0 : k0 < ws.length) (w0 : ρ k0 = 0) (hle0 : ∀ k : Nat, ws.length ≤ k → ρ k = 0) (hnum : lc ≤ 40 ∧ bc ≤ 60 ∧ rc ≤ 16 ∧ fc ≤ 60 ∧ tl ≤ 400) (hbc : bc < 60) (hT : T < 10) (qla : CL ρ fv ws tys la lc) (qra : aQ ws tys RX3 (oR ρ ws tys) ra 16) (qsn : oN ρ fv ws tys sn) (qrd : oW ρ ws tys rd tl) (qdr : oD ρ ws tys dr) (qbl : oB ρ ws tys bl) (qvd : aI ρ ws tys vd 16) (qfb : oF ρ fv ws tys fb fc)
    {kta tta kba tba : Nat} {cta cba : ClassId} {fta fba : Nat → Option Nat} (eta : W[kta]? = some (ta, .inl (cta, 10, .inr (.inr (.inr (.inr fta)))))) (uta : ty[tta]? = some (cta, .object RX7)) (hta0 : ∀ j : Nat, 10 ≤ j → fta j = none) (hta1 : ∀ j : Nat, j < 10 → ∃ v : Nat, fta j = some v ∧ VES ρ fv ws tys v (0 + j))
    (eba : W[kba]? = some (ba, .inl (cba, 60, .inr (.inr (.inr (.inr fba)))))) (uba : ty[tba]? = some (cba, .object RX7)) (hba0 : ∀ j : Nat, bc ≤ j → fba j = none) (hba1 : ∀ j : Nat, j < bc → ∃ v : Nat, fba j = some v ∧ VES ρ fv ws tys v (10 + j))
    (hsm : sm (uy ρ [10000 + 2 * T, 10001 + 2 * T]) [7] ws W) (htx : tyx tys ty)
    {vT kT gT rT tT : Nat} {cT : ClassId} {yT : Int32} {fT : Nat → Int32} (hgT : fta T = some vT) (lT : kT < ws.length) (lR : rT < ws.length) (wT : ρ kT = 10000 + 2 * T) (wR : ρ rT = 10001 + 2 * T) (eT : W[kT]? = some (vT, .inr (7, [.ref gT, .int yT, .int (if yT = 0 then 0 else fv 10 T), .int (fv 11 T), .int (fv 12 T)]))) (hyT : yT = drA (fv 9) T a2) (eR : W[rT]? = some (gT, .inl (cT, 40, .inl fT))) (uR : ty[tT]? = some (cT, .int)) (gR : ∀ i : Nat, i < 40 → fT i = drF (fv 9) T a2 (40 * T + i))
    {q K g kg tg : Nat} {cg : ClassId} {f9 : Nat → Int32} {hh : Int32} (eq : W[K]? = some (q, .inr (7, [.ref g, .int (sm1 f9 40), .int hh, .int a1, .int dn]))) (hhh : hh = fv 10 T) (eg : W[kg]? = some (g, .inl (cg, 40, .inl f9))) (ug : ty[tg]? = some (cg, .int)) (gg : ∀ i : Nat, i < 40 → f9 i = drW (fv 9) T a2 i) (n0 : ws.length ≤ K) (n1 : K < kg)
    (hw2 : w2 = W.set kba (ba, .inl (cba, 60, .inr (.inr (.inr (.inr (va_up fba (nI bc).toNatClampNeg (some q)))))))) (hs2 : sm (rz [k0]) [8] w2 w3)
    (e0 : w3[k0]? = some (h0, .inr (8, [.ref la, .ref ta, .ref ba, .ref ra, .ref sn, .ref rd, .ref dr, .ref bl, .ref vd, .ref fb, .int (nI lc), .int (nI (bc + 1)), .int (nI rc), .int (nI fc), .int dn]))) :
    ∃ σ : Nat → Nat, XI σ (jarF fv bc dn a1 a2) w3 ty h0 lc (bc + 1) rc fc dn tl := by
  subst hw2
  subst eT9
  subst hyT
  subst hhh
  obtain ⟨T, eT9⟩ : ∃ T9 : Nat, T9 = a1.toNatClampNeg := ⟨_, rfl⟩
  rw [← eT9] at hT hsm hgT wT wR eT gR gg eq
  obtain ⟨σ, hσ⟩ : ∃ f : Nat → Nat, f = fun k => if k = K then 10000 + 2 * (10 + bc) else if k = kg then 10001 + 2 * (10 + bc) else ρ k := ⟨_, rfl⟩
  have hr : ∀ k : Nat, k ≠ K → k ≠ kg → σ k = ρ k := fun k x1 x2 => by
    rw [hσ]
    show (if k = K then 10000 + 2 * (10 + bc) else if k = kg then 10001 + 2 * (10 + bc) else ρ k) = ρ k
    rw [if_neg x1, if_neg x2]
  have hre : ∀ k : Nat, k < ws.length → σ k = ρ k := fun k hk => hr k (by omega) (by omega)
  have y0 : σ K = 10000 + 2 * (10 + bc) := by rw [hσ]; exact if_pos rfl
  have y1 : σ kg = 10001 + 2 * (10 + bc) := by
    rw [hσ]
    show (if kg = K then 10000 + 2 * (10 + bc) else if kg = kg then 10001 + 2 * (10 + bc) else _) = _
    rw [if_neg (by omega), if_pos rfl]
  have s0 : σ k0 = 0 := (hre k0 hk0).trans w0
  have nz : ∀ k : Nat, σ k ≠ 0 → rz [k0] k ≠ 0 := fun k h => rz_o1 (fun x => h (by rw [x]; exact s0))
  have hlw : W.length ≤ w3.length := by
    have h1 := hs2.len
    rw [List.length_set] at h1
    exact h1
  have hww := hsm.len
  have bkg := (List.getElem?_eq_some_iff.mp eg).1
  have cell : ∀ {k : Nat} {x : Nat × va_E}, W[k]? = some x → x ≠ (ba, .inl (cba, 60, .inr (.inr (.inr (.inr fba))))) → σ k ≠ 0 → w3[k]? = some x := fun {k x} h hn hz => hs2.keep (nz k hz) (set_o h eba hn)
  have keepV : ∀ v r : Nat, r ≠ T → VES ρ fv ws tys v r → VES σ fv w3 ty v r := fun v r hr2 hV =>
    (((hV.re hre).sm hsm htx (fun k hb h1 h2 => by rw [hre k hb] at h1 h2; exact uy2 (by omega) (by omega) (by omega))).st eba).sm hs2 (tyx.rf _) (fun k _ h1 _ => nz k (by omega))
  have cq : (nI bc).toNatClampNeg = bc := nI_clamp (by omega)
  have j9i : ∀ i : Nat, i < 40 → jarF fv bc dn a1 a2 9 (40 * (10 + bc) + i) = drW (fv 9) T a2 i := fun i hi => by
    show rwI (drF (fv 9) a1.toNatClampNeg a2) (10 + bc) (drW (fv 9) a1.toNatClampNeg a2) _ = _
    rw [rwI_in hi, ← eT9]
  have j9t : ∀ i : Nat, i < 40 → jarF fv bc dn a1 a2 9 (40 * T + i) = drF (fv 9) T a2 (40 * T + i) := fun i hi => by
    show rwI (drF (fv 9) a1.toNatClampNeg a2) (10 + bc) (drW (fv 9) a1.toNatClampNeg a2) _ = _
    rw [rwI_out hi (by omega), ← eT9]
  have j9o : ∀ r i : Nat, r ≠ T → r ≠ 10 + bc → i < 40 → jarF fv bc dn a1 a2 9 (40 * r + i) = fv 9 (40 * r + i) := fun r i x1 x2 hi => by
    show rwI (drF (fv 9) a1.toNatClampNeg a2) (10 + bc) (drW (fv 9) a1.toNatClampNeg a2) _ = _
    rw [rwI_out hi x2, drF, ← eT9, rwS_out hi x1]
  have j10 : jarF fv bc dn a1 a2 10 = upd (upd (fv 10) (10 + bc) (fv 10 T)) T (if drA (fv 9) T a2 = 0 then 0 else fv 10 T) := by rw [eT9]; rfl
  have j11 : jarF fv bc dn a1 a2 11 = upd (fv 11) (10 + bc) a1 := rfl
  have j12 : jarF fv bc dn a1 a2 12 = upd (fv 12) (10 + bc) dn := rfl
  have keepV2 : ∀ v r : Nat, r ≠ T → r ≠ 10 + bc → VES ρ fv ws tys v r → VES σ (jarF fv bc dn a1 a2) w3 ty v r := fun v r x1 x2 hV => (keepV v r x1 hV).fvx (fun i hi => j9o r i x1 x2 hi) (by rw [j10, upd_n x1, upd_n x2]) (by rw [j11, upd_n x2]) (by rw [j12, upd_n x2])
  have VT : VES σ (jarF fv bc dn a1 a2) w3 ty vT T := by
    refine ⟨kT, gT, ?_, (hre kT lT).trans wT, rT, cT, tT, fT, cell eR (by intro h9; simp at h9) (by rw [hre rT lR]; omega), uR, (hre rT lR).trans wR, fun i hi => (gR i hi).trans (j9t i hi).symm⟩
    have m1 : mall (jarF fv bc dn a1 a2 9) T 40 = drA (fv 9) T a2 := mall_cg 40 (fun i hi => j9t i hi)
    rw [m1, j10, upd_s, j11, upd_n (show T ≠ 10 + bc by omega), j12, upd_n (show T ≠ 10 + bc by omega)]
    rw [eT9] at eT ⊢
    exact cell eT (by intro h9; simp at h9) (by rw [hre kT lT]; omega)
  have VB : VES σ (jarF fv bc dn a1 a2) w3 ty q (10 + bc) := by
    refine ⟨K, g, ?_, y0, kg, cg, tg, f9, cell eg (by intro h9; simp at h9) (by omega), ug, y1, fun i hi => (gg i hi).trans (j9i i hi).symm⟩
    have m1 : mall (jarF fv bc dn a1 a2 9) (10 + bc) 40 = sm1 f9 40 := by
      rw [mall_sm1]; exact sm1_cg 40 (fun i hi => (j9i i hi).trans (gg i hi).symm)
    rw [m1, j10, upd_n (show 10 + bc ≠ T by omega), upd_s, j11, upd_s, j12, upd_s]
    exact cell eq (by intro h9; simp at h9) (by omega)
  have cR : ∀ v : Nat, oR ρ ws tys v → oR σ w3 ty v := fun v hv => ((((hv.re hre).sm hsm htx).st eba).sm hs2 (tyx.rf _))
  have cQ : ∀ {C : String} {P P' : Nat → Prop} {a n : Nat}, n ≠ 60 → aQ ws tys C P a n → (∀ v : Nat, P v → P' v) → aQ w3 ty C P' a n := fun {C P P' a n} hn h hp => ((h.sm hsm htx (fun v hv => hv)).st eba hn (fun v hv => hv)).sm hs2 (tyx.rf _) hp
  refine ⟨σ, k0, la, ta, ba, ra, sn, rd, dr, bl, vd, fb, e0, s0, fun k hk => ?_, ⟨hnum.1, by omega, hnum.2.2⟩, ?_, ⟨kta, cta, tta, fta, hs2.arrQ (set_o eta eba (by intro h9; simp at h9)), uta, hta0, fun j hj => ?_⟩, ⟨kba, cba, tba, va_up fba (nI bc).toNatClampNeg (some q), hs2.arrQ (wset_self eba), uba, fun j hj => ?_, fun j hj => ?_⟩, cQ (by decide) qra cR, ?_, ((((qrd.re hre).sm hsm htx (by decide)).st eba).sm hs2 (tyx.rf _) (by decide)), ((((qdr.re hre).sm hsm htx).st eba).sm hs2 (tyx.rf _)), ((((qbl.re hre).sm hsm htx).st eba).sm hs2 (tyx.rf _)), ((((qvd.re hre).sm hsm htx).st eba).sm hs2 (tyx.rf _)), (((((qfb.re hre).sm hsm htx (fun k hb h1 => by rw [hre k hb] at h1; exact uy2 (by omega) (by omega) (by omega))).st eba).sm hs2 (tyx.rf _) (fun k _ h1 => nz k (by omega))).fvx rfl)⟩
  · rw [hr k (by omega) (by omega)]; exact hle0 k (by omega)
  · exact (((((qla.re hre).sm hsm htx (fun k hb h1 h2 => by rw [hre k hb] at h1 h2; exact uy2 (by omega) (by omega) (by omega))).st eba (by decide)).sm hs2 (tyx.rf _) (fun k _ h1 _ => nz k (by omega))).fvx (fun _ _ _ _ => rfl) rfl rfl rfl)
  · rcases Nat.decEq j T with x | x
    · obtain ⟨v, ev, hV⟩ := hta1 j hj
      exact ⟨v, ev, keepV2 v (0 + j) (by omega) (by omega) hV⟩
    · rw [x]; exact ⟨vT, hgT, by rw [Nat.zero_add]; exact VT⟩
  · rw [cq, va_up_ne _ _ (by omega)]; exact hba0 j (by omega)
  · rcases Nat.lt_or_ge j bc with h | h
    · obtain ⟨v, ev, hV⟩ := hba1 j h
      exact ⟨v, by rw [cq, va_up_ne _ _ (by omega)]; exact ev, keepV2 v (10 + j) (by omega) (by omega) hV⟩
    · obtain rfl : j = bc := by omega
      exact ⟨q, by rw [cq]; exact va_up_self _ _ _, VB⟩
  · exact ((((qsn.re hre).sm hsm htx (fun k hb h1 h2 => by rw [hre k hb] at h1 h2; exact uy2 (by omega) (by omega) (by omega))).st eba).sm hs2 (tyx.rf _) (fun k _ h1 _ => nz k (by omega)))
set_option maxHeartbeats 4000000 in
set_option maxRecDepth 100000 in
theorem h_jar (l : Launch) (D : va_G) (ρ : Nat → Nat) (ws : va_W) (tys : List (ClassId × FieldType)) (fv : Nat → Nat → Int32) (h0 lc bc rc fc : Nat) (dn : Int32) (tl : Nat) (a1 a2 : Int32) (sz : Nat) (X : XI ρ fv ws tys h0 lc bc rc fc dn tl) (V : NV fv lc) : Met l yX8_jar wsX8_jar ({ frames := 3, cells := 2, slots := 45, locals := 72 }) (va_Pc [.ref h0, .int a1, .int a2] (fun U => U.heap.size = sz ∧ va_P D vwCl ws U.heap ∧ va_K D vwCl tys U ∧ va_D (fun _ => True) ws)) (va_Qi (fun (r : Int32) (_ : Unit) => (jarN fv bc a1 a2 ∧ r = (if (a1 < 0 ∨ 9 < a1) then (-1) else if (a2 < 1 ∨ mall (fv 9) a1.toNatClampNeg 40 < a2) then (-2) else (-3))) ∨ (¬ jarN fv bc a1 a2 ∧ r = nI bc)) (fun (_ : Unit) (t : State) => ∃ (ws' : va_W) (tys' : List (ClassId × FieldType)), va_P D vwCl ws' t.heap ∧ va_K D vwCl tys' t ∧ va_D (va_A ws sz) ws' ∧ ((jarN fv bc a1 a2 ∧ XI ρ fv ws' tys' h0 lc bc rc fc dn tl) ∨ (¬ jarN fv bc a1 a2 ∧ ∃ σ : Nat → Nat, XI σ (jarF fv bc dn a1 a2) ws' tys' h0 lc (bc + 1) rc fc dn tl))) (va_A ws sz)) 2 45 (va_A ws sz) := by
  refine Met.ofW (cc := cX8_jar) (maxL := 6) (ret := (some .int)) (by decide) rfl ?_
  intro p e s m args below meth c s₁ B hml hv
  obtain ⟨rfl, hsz, hP, hK, hD0⟩ := hv
  have hx := B.exec
  have hb := B.bytes
  have hr := B.returns
  have hts := atoms_spec (ws := wsX8_jar) B.pre
  have hown : s.vm.findClass RX8 = some m.cls := findClass_of_methodNamed B.named
  have hlocks := B.notSynchronized
  subst hsz
  have hD := hD0.self (sz := s.heap.size)
  generalize hAe : va_A ws s.heap.size = A at hD ⊢
  have hA : ∀ q : Nat, s.heap.size ≤ q → A q := fun q h => by rw [← hAe]; exact Or.inr h
  have hS : va_S A s.heap s.heap [] := va_S.rf
  have hsm : sm (uy ρ [10000 + 2 * a1.toNatClampNeg, 10001 + 2 * a1.toNatClampNeg]) [7] ws ws := sm.rf ws
  have htx : tyx tys tys := tyx.rf tys
  have hin7 : ∀ w ∈ u_ws RX7 TX7 5, w ∈ wsX8_jar := (fun _ h9 => List.mem_cons_of_mem _ (List.mem_append_left _ (List.mem_append_left _ ((List.mem_append_right _ h9)))))
  have hin8 : ∀ w ∈ u_ws RX8 TX8 15, w ∈ wsX8_jar := (fun _ h9 => List.mem_cons_of_mem _ (List.mem_append_left _ ((List.mem_append_right _ h9))))
  have hl := lv_entry ([.ref h0, .int a1, .int a2]) (n := 6) (Nat.le_of_ble_eq_true rfl)
  rw [lg_entry_eq]
  generalize (lg_sl ([.ref h0, .int a1, .int a2]) ++ List.replicate (6 - (lg_sl ([.ref h0, .int a1, .int a2])).length) Slot.unset).toArray = ls at hl ⊢
  have hl : lv_has ls 6 [(0, .ref h0), (1, .int a1), (2, .int a2)] := hl
  obtain ⟨k0, la, ta, ba, ra, sn, rd, dr, bl, vd, fb, e0, w0, hle0, hnum, qla, qta, qba, qra, qsn, qrd, qdr, qbl, qvd, qfb⟩ := id X
  obtain ⟨kla, cla, tla, fla, ela, ula, hla0, hla1⟩ := id qla
  have hlc := hnum.1
  obtain ⟨kta, cta, tta, fta, eta, uta, hta0, hta1⟩ := id qta
  obtain ⟨kba, cba, tba, fba, eba, uba, hba0, hba1⟩ := id qba
  obtain ⟨kdr, dg, dq, edr, ⟨kdg, cdg, tdg, fdg, edg, udg, wdg⟩, ⟨kdq, cdq, tdq, fdq, edq, udq, wdq⟩⟩ := id qdr
  have hbc := hnum.2.1
  have hk0 := (List.getElem?_eq_some_iff.mp e0).1
  have bdg := (List.getElem?_eq_some_iff.mp edg).1
  refine lv_aload_n hx hb dX8_jar_0 rfl (lv_at hl 0 rfl) ?_
  refine lv_iload_n hx hb dX8_jar_1 rfl (lv_at hl 1 rfl) ?_
  refine va_csq (W.runV (As := [.int a1]) (rest := []) ⟨hx, hb, hml, hown, hts⟩ (s_X8_tankAt l D ws tys h0 k0 _ ta kta cta fta tta a1 e0 rfl eta uta) (cwV 1 hts gX8_jar_X8_tankAt rfl rfl rfl (by decide +kernel) ⟨Nat.le_of_ble_eq_true rfl, Nat.le_of_ble_eq_true rfl⟩) ⟨fun a U g mk q => ⟨q.1, q.2.1, va_K.moved (u := U) (U := U.calling g mk a) (Vm.Alike.refl U.vm) q.2.2⟩, va_recv hK hP (ci := 8) (q0 := k0) rfl e0, fun U hU hW => ⟨rfl, by rw [hU]; exact hP, va_K.moved hW.alike hK⟩⟩ rfl rfl hl.1 rfl (lv_room (Nat.le_of_ble_eq_true rfl)) dX8_jar_2 ⟨Nat.le_of_ble_eq_true rfl, Nat.le_of_ble_eq_true rfl⟩) (fun r_1 k_2 => ?_)
  have hz_3 := tankx hta1 k_2
  rcases hz_3 with ⟨rfl, o_4⟩ | ⟨a_5, b_6, hj_7, v_8, rfl, hg_9, hV_10⟩
  · refine tp_v (y := .null) rfl ?_
    refine lv_astore_nN (lv' := [(3, .null), (0, .ref h0), (1, .int a1), (2, .int a2)]) hx hb dX8_jar_5 rfl hl (by decide) rfl (fun ls hl => ?_)
    refine lv_aload_nN hx hb dX8_jar_6 rfl (lv_at hl 0 rfl) ?_
    refine lv_ifnonnullN hx hb dX8_jar_7 ?_
    refine lv_iconst (v := (-1)) hx hb dX8_jar_10 (by decide) ?_
    refine W.widen (k := 2) (n := 45) (by omega) (by omega) ?_
    exact W.iret (v := (-1)) hx hb hr (fun t ht hW => ⟨⟨(-1), (), rfl, Or.inl ⟨Or.inl o_4, (if_pos o_4).symm⟩, ws, tys, by rw [ht]; exact hP, va_K.moved hW.alike hK, hD, Or.inl ⟨Or.inl o_4, X⟩⟩, hS.F ht⟩) hS.2.2 dX8_jar_11
  obtain ⟨k_11, g_12, e_13, wk_14, k_15, c9_16, t_17, f_18, e_19, u_20, wr_21, g_22⟩ := hV_10
  refine tp_v (y := .ref v_8) rfl ?_
  refine lv_astore_n (lv' := [(3, .ref v_8), (0, .ref h0), (1, .int a1), (2, .int a2)]) hx hb dX8_jar_5 rfl hl (by decide) rfl (fun ls hl => ?_)
  refine lv_aload_n hx hb dX8_jar_6 rfl (lv_at hl 0 rfl) ?_
  refine lv_ifnonnull (tgt := 12) hx hb dX8_jar_7 (by decide) ?_
  refine lv_iload_n hx hb dX8_jar_12 rfl (lv_at hl 3 rfl) ?_
  refine lv_iconst (v := 1) hx hb dX8_jar_13 (by decide) ?_
  refine lv_aload_n hx hb dX8_jar_14 rfl (lv_at hl 0 rfl) ?_
  refine va_get (D := D) (ci := 7) (v := .int (mall (fv 9) a1.toNatClampNeg 40)) (C := RX7) (T := TX7) (N := 5) hx hb hts hin7 hown hK hP k_11 e_13 rfl 1 (by decide) (hts (.fieldLink RX8 144 "HoneyHouse$Vessel" "total" "I") (List.mem_of_getElem? (i := 1) rfl)) (fun _ h9 => h9) rfl dX8_jar_15 ?_
  refine vp_callSi (W.runS (As := [.int a2, .int 1, .int (mall (fv 9) a1.toNatClampNeg 40)]) (rest := []) ⟨hx, hb, hml, hown, hts⟩ (s_X8_isIn l a2 1 (mall (fv 9) a1.toNatClampNeg 40)) (va_cwS 3 hts gX8_jar_X8_isIn rfl rfl rfl (by decide +kernel) ⟨Nat.le_of_ble_eq_true rfl, Nat.le_of_ble_eq_true rfl⟩) ⟨fun a U g mk q => q, fun U hU hW => ⟨rfl, trivial⟩⟩ rfl rfl hl.1 rfl (lv_room (Nat.le_of_ble_eq_true rfl)) dX8_jar_18 ⟨Nat.le_of_ble_eq_true rfl, Nat.le_of_ble_eq_true rfl⟩) (fun r_23 k_24 => ?_)
  rcases k_24 with ⟨rfl, a_25o⟩ | ⟨rfl, a_25, b_26⟩
  · refine lv_if_ne (tgt := 27) hx hb dX8_jar_21 (by decide) (fun c_27 => absurd (by decide) c_27) (fun c_27 => ?_)
    refine lv_bipush (v := (-2)) hx hb dX8_jar_24 (by decide) ?_
    refine W.widen (k := 2) (n := 45) (by omega) (by omega) ?_
    exact W.iret (v := (-2)) hx hb hr (fun t ht hW => ⟨⟨(-2), (), rfl, Or.inl ⟨Or.inr (Or.inl a_25o), (by rw [if_neg (fun h => Or.elim h a_5 b_6), if_pos a_25o])⟩, ws, tys, by rw [ht]; exact hP, va_K.moved hW.alike hK, hD, Or.inl ⟨Or.inr (Or.inl a_25o), X⟩⟩, hS.F ht⟩) hS.2.2 dX8_jar_26
  refine lv_if_ne (tgt := 27) hx hb dX8_jar_21 (by decide) (fun c_28 => ?_) (fun c_28 => absurd c_28 (by decide))
  refine lv_aload_n hx hb dX8_jar_27 rfl (lv_at hl 1 rfl) ?_
  refine va_get (D := D) (ci := 8) (v := .int (nI bc)) (C := RX8) (T := TX8) (N := 15) hx hb hts hin8 hown hK hP k0 e0 rfl 11 (by decide) (hts (.fieldLink RX8 170 "HoneyHouse" "batchCount" "I") (List.mem_of_getElem? (i := 2) rfl)) (fun _ h9 => h9) rfl dX8_jar_28 ?_
  refine lv_aload_n hx hb dX8_jar_31 rfl (lv_at hl 1 rfl) ?_
  refine va_get (D := D) (ci := 8) (v := .ref ba) (C := RX8) (T := TX8) (N := 15) hx hb hts hin8 hown hK hP k0 e0 rfl 2 (by decide) (hts (.fieldLink RX8 21 "HoneyHouse" "batches" "[LHoneyHouse$Vessel;") (List.mem_of_getElem? (i := 3) rfl)) (fun _ h9 => h9) rfl dX8_jar_32 ?_
  refine va_alen (v := 60) hx hb hK hP kba tba eba uba rfl dX8_jar_35 ?_
  refine lv_icmp_lt (tgt := 42) hx hb dX8_jar_36 (by decide) (fun c_29 => ?_) (fun c_29 => ?_)
  · have d_30 := n_lt (a := bc) (b := 60) (by omega) (by omega) c_29
    have lt_31 := (List.getElem?_eq_some_iff.mp e_13).1
    have lt_32 := (List.getElem?_eq_some_iff.mp e_19).1
    refine va_new (ci := 7) (fs := [.null, .int 0, .int 0, .int 0, .int 0]) (C := RX7) (T := TX7) (N := 5) hx hb hts hin7 tyX7 tyX7_ok hown (hts (.classLink RX8 15 RX7) (List.mem_of_getElem? (i := 4) rfl)) (hts (.instantiable RX7 5) (List.mem_of_getElem? (i := 5) rfl)) (hts (.initialized RX7) (List.mem_of_getElem? (i := 6) rfl)) hK hP hD hS hA rfl (fun j hj => by rcases (show j = 0 ∨ j = 1 ∨ j = 2 ∨ j = 3 ∨ j = 4 by omega) with rfl | rfl | rfl | rfl | rfl <;> rfl) (Nat.le_of_ble_eq_true rfl) (Nat.le_of_ble_eq_true rfl) dX8_jar_42 (fun q_33 H hP hD hS => ?_)
    have le_34 := hsm.len
    have hP : va_P D vwCl (ws ++ [(q_33, .inr (7, [.null, .int 0, .int 0, .int 0, .int 0]))]) H := hP
    have hD : va_D A (ws ++ [(q_33, .inr (7, [.null, .int 0, .int 0, .int 0, .int 0]))]) := hD
    have hm_36 : sm (uy ρ [10000 + 2 * a1.toNatClampNeg, 10001 + 2 * a1.toNatClampNeg]) [] ws (ws ++ [(q_33, .inr (7, [.null, .int 0, .int 0, .int 0, .int 0]))]) := sm.app _ _ _ _
    have e_37 : (ws ++ [(q_33, .inr (7, [.null, .int 0, .int 0, .int 0, .int 0]))])[ws.length]? = some (q_33, .inr (7, [.null, .int 0, .int 0, .int 0, .int 0])) := ap_new _ _
    have hm_38 : sm (fun _ => 1) [] ws (ws ++ [(q_33, .inr (7, [.null, .int 0, .int 0, .int 0, .int 0]))]) := sm.app _ _ _ _
    generalize ws ++ [(q_33, .inr (7, [.null, .int 0, .int 0, .int 0, .int 0]))] = ws_35 at hP hD hm_36 hm_38 e_37
    have e_39 := hm_38.keep Nat.one_ne_zero e0
    have e_40 := hm_38.keep Nat.one_ne_zero ela
    have e_41 := hm_38.keep Nat.one_ne_zero eta
    have e_42 := hm_38.keep Nat.one_ne_zero eba
    have e_43 := hm_38.keep Nat.one_ne_zero edr
    have e_44 := hm_38.keep Nat.one_ne_zero edg
    have e_45 := hm_38.keep Nat.one_ne_zero edq
    have e_46 := hm_38.keep Nat.one_ne_zero e_13
    have e_47 := hm_38.keep Nat.one_ne_zero e_19
    have hsm := hsm.tr (hm_36.mono (fun _ h9 => absurd h9 List.not_mem_nil))
    refine W.widen (k := 1) (n := 5) (by omega) (by omega) ?_
    refine lv_dup hx hb dX8_jar_45 rfl ?_
    refine lv_iload_n hx hb dX8_jar_46 rfl (lv_at hl 2 rfl) ?_
    refine lv_aload_n hx hb dX8_jar_47 rfl (lv_at hl 1 rfl) ?_
    refine va_get (D := D) (ci := 8) (v := .int dn) (C := RX8) (T := TX8) (N := 15) hx hb hts hin8 hown hK hP k0 e_39 rfl 14 (by decide) (hts (.fieldLink RX8 82 "HoneyHouse" "dayNow" "I") (List.mem_of_getElem? (i := 7) rfl)) (fun _ h9 => h9) rfl dX8_jar_48 ?_
    have hFc := free_all hD hS hA
    refine va_callv (va_runI (As := [.int a1, .int dn]) (rest := [.ref q_33]) ⟨hx, hb, hml, hown, hts⟩ (c_X7_init l D (rl ws_35) ws_35 tys q_33 ws.length a1 dn H.size e_37 (fun _ h9 => rl_out h9)) (cwI 2 hts gX8_jar_X7_init rfl rfl rfl (hts (.initialized RX7) (List.mem_of_getElem? (i := 6) rfl)) (hts (.methodLink RX8 65 yX7_init) (List.mem_of_getElem? (i := 19) rfl)) (hts (.instanceMethod yX7_init) (List.mem_of_getElem? (i := 20) rfl)) rfl (by decide +kernel) ⟨Nat.le_of_ble_eq_true rfl, Nat.le_of_ble_eq_true rfl⟩) ⟨fun a U g mk q => by obtain ⟨q0, q1, qP, qK, qD⟩ := q; exact ⟨q0, q1, qP, va_K.moved (u := U) (U := U.calling g mk a) (Vm.Alike.refl U.vm) qK, qD⟩, fun U hU hW => ⟨rfl, by rw [hU], by rw [hU]; exact hP, va_K.moved hW.alike hK, hD.weaken (fun _ _ _ _ => trivial)⟩⟩ rfl rfl hl.1 rfl (lv_room (Nat.le_of_ble_eq_true rfl)) dX8_jar_51 ⟨Nat.le_of_ble_eq_true rfl, Nat.le_of_ble_eq_true rfl⟩) hS (fun q _ h => hFc q h) hFc (fun u t H1 locs ht hvm w_48 hB hz1 hk1 hS => ?_)
    obtain ⟨ws_49, ty_50, hm_51, ht_53, hP1, hK1, hD1, hx_52⟩ := hB
    rw [ht] at hP1
    have hK := va_K.moved hvm.symm hK1
    have hD := hD1.weaken (fun _ _ _ h => hFc _ h)
    generalize H1 = H at hP1 hS ⊢
    have hP := hP1
    have e_54 := hm_51.keep (pl_ne e_39 e_37 (by intro h9; simp at h9)) (rl_in (List.getElem?_eq_some_iff.mp e_39).1) e_39
    have e_55 := hm_51.keep (pl_ne e_40 e_37 (by intro h9; simp at h9)) (rl_in (List.getElem?_eq_some_iff.mp e_40).1) e_40
    have u_56 := ht_53 _ _ ula
    have e_57 := hm_51.keep (pl_ne e_41 e_37 (by intro h9; simp at h9)) (rl_in (List.getElem?_eq_some_iff.mp e_41).1) e_41
    have u_58 := ht_53 _ _ uta
    have e_59 := hm_51.keep (pl_ne e_42 e_37 (by intro h9; simp at h9)) (rl_in (List.getElem?_eq_some_iff.mp e_42).1) e_42
    have u_60 := ht_53 _ _ uba
    have e_61 := hm_51.keep (pl_ne e_43 e_37 (by intro h9; simp at h9)) (rl_in (List.getElem?_eq_some_iff.mp e_43).1) e_43
    have e_62 := hm_51.keep (pl_ne e_44 e_37 (by intro h9; simp at h9)) (rl_in (List.getElem?_eq_some_iff.mp e_44).1) e_44
    have u_63 := ht_53 _ _ udg
    have e_64 := hm_51.keep (pl_ne e_45 e_37 (by intro h9; simp at h9)) (rl_in (List.getElem?_eq_some_iff.mp e_45).1) e_45
    have u_65 := ht_53 _ _ udq
    have e_66 := hm_51.keep (pl_ne e_46 e_37 (by intro h9; simp at h9)) (rl_in (List.getElem?_eq_some_iff.mp e_46).1) e_46
    have e_67 := hm_51.keep (pl_ne e_47 e_37 (by intro h9; simp at h9)) (rl_in (List.getElem?_eq_some_iff.mp e_47).1) e_47
    have u_68 := ht_53 _ _ u_20
    have hm_69 : smp (uy ρ [10000 + 2 * a1.toNatClampNeg, 10001 + 2 * a1.toNatClampNeg]) ws.length [] ws_35 ws_49 := hm_51.up (fun k hk _ => rl_in hk)
    have lt_70 := (List.getElem?_eq_some_iff.mp e_37).1
    have le_71 := hsm.len
    have hsm := hsm.trk (hm_69.mono (fun _ h9 => absurd h9 List.not_mem_nil)) le_34
    have htx := htx.tr ht_53
    refine W.widen (k := 2) (n := 45) (by omega) (by omega) ?_
    obtain ⟨g_72, k_73, c9_74, t_75, e_76, e_77, u_78, le_79⟩ := hx_52
    refine lv_astore (lv' := [(4, .ref q_33), (3, .ref v_8), (0, .ref h0), (1, .int a1), (2, .int a2)]) hx hb dX8_jar_54 hl (by decide) rfl (fun ls hl => ?_)
    refine lv_aload_n hx hb dX8_jar_56 rfl (lv_at hl 1 rfl) ?_
    refine va_get (D := D) (ci := 7) (v := .int (fv 10 a1.toNatClampNeg)) (C := RX7) (T := TX7) (N := 5) hx hb hts hin7 hown hK hP k_11 e_66 rfl 2 (by decide) (hts (.fieldLink RX8 160 "HoneyHouse$Vessel" "heat" "I") (List.mem_of_getElem? (i := 8) rfl)) (fun _ h9 => h9) rfl dX8_jar_57 ?_
    refine lv_istore (lv' := [(5, .int (fv 10 a1.toNatClampNeg)), (4, .ref q_33), (3, .ref v_8), (0, .ref h0), (1, .int a1), (2, .int a2)]) hx hb dX8_jar_60 hl (by decide) rfl (fun ls hl => ?_)
    refine lv_aload_n hx hb dX8_jar_62 rfl (lv_at hl 3 rfl) ?_
    refine va_get (D := D) (ci := 8) (v := .ref dr) (C := RX8) (T := TX8) (N := 15) hx hb hts hin8 hown hK hP k0 e_54 rfl 6 (by decide) (hts (.fieldLink RX8 47 "HoneyHouse" "draught" "LHoneyHouse$Draught;") (List.mem_of_getElem? (i := 9) rfl)) (fun _ h9 => h9) rfl dX8_jar_63 ?_
    refine lv_aload_n hx hb dX8_jar_66 rfl (lv_at hl 2 rfl) ?_
    refine lv_iload_n hx hb dX8_jar_67 rfl (lv_at hl 5 rfl) ?_
    obtain ⟨G9, u9, X9, S9, L9, ex9, hX1, hXS, hS9, hG9, hs9, hz9, hm9, -, -, hl9, hL9, -⟩ := nv_draw V hlc (t := a1.toNatClampNeg) (x := a2) (by omega) a_25 b_26
    have hvt9 : (0 : Int32) < mall (fv 9) a1.toNatClampNeg 40 := by rw [hm9]; exact nI_lt (a := 0) (b := S9) (by omega) (by omega)
    have hFc := free_all hD hS hA
    refine va_callv (va_runV (As := [.ref v_8, .int a2]) (rest := []) ⟨hx, hb, hml, hown, hts⟩ (a_drawFrom l D (rz [kdg, kdq, k_11, k_15]) ws_49 ty_50 dr kdr dg kdg cdg tdg fdg dq kdq cdq tdq fdq v_8 k_11 (mall (fv 9) a1.toNatClampNeg 40) (fv 10 a1.toNatClampNeg) (fv 11 a1.toNatClampNeg) (fv 12 a1.toNatClampNeg) g_12 k_15 c9_16 t_17 f_18 a2 L9 H.size ((mall_sm1 (fv 9) a1.toNatClampNeg 40).trans (sm1_cg 40 (fun i hi => (g_22 i hi).symm))) hvt9 ((lak_cg 40 g_22).trans hl9) hL9 (tag_ne wr_21 wdg (by omega)) e_61 e_62 u_63 e_64 u_65 e_66 e_67 u_68 (rz_in (by simp)) (rz_in (by simp)) (rz_in (by simp)) (rz_in (by simp))) (cwV 2 hts gX8_jar_X1_drawFrom rfl rfl rfl (by decide +kernel) ⟨Nat.le_of_ble_eq_true rfl, Nat.le_of_ble_eq_true rfl⟩) ⟨fun a U g mk q => by obtain ⟨q0, q1, qP, qK, qD⟩ := q; exact ⟨q0, q1, qP, va_K.moved (u := U) (U := U.calling g mk a) (Vm.Alike.refl U.vm) qK, qD⟩, va_recv hK hP (ci := 1) (q0 := kdr) rfl e_61, fun U hU hW => ⟨rfl, by rw [hU], by rw [hU]; exact hP, va_K.moved hW.alike hK, hD.weaken (fun _ _ _ _ => trivial)⟩⟩ rfl rfl hl.1 rfl (lv_room (Nat.le_of_ble_eq_true rfl)) dX8_jar_68 ⟨Nat.le_of_ble_eq_true rfl, Nat.le_of_ble_eq_true rfl⟩) hS (fun q _ h => hFc q h) hFc (fun u t H1 locs ht hvm w_80 hB hz1 hk1 hS => ?_)
    obtain ⟨ws_81, ty_82, hm_83, ht_85, hP1, hK1, hD1, hx_84⟩ := hB
    rw [ht] at hP1
    have hK := va_K.moved hvm.symm hK1
    have hD := hD1.weaken (fun _ _ _ h => hFc _ h)
    generalize H1 = H at hP1 hS ⊢
    have hP := hP1
    have e_86 := hm_83.keep (rz_o4 (pl_ne e_54 e_62 (by intro h9; simp at h9)) (pl_ne e_54 e_64 (by intro h9; simp at h9)) (pl_ne e_54 e_66 (by intro h9; simp at h9)) (pl_ne e_54 e_67 (by intro h9; simp at h9))) e_54
    have e_87 := hm_83.keep (rz_o4 (pl_ne e_55 e_62 (by intro h9; simp at h9)) (pl_ne e_55 e_64 (by intro h9; simp at h9)) (pl_ne e_55 e_66 (by intro h9; simp at h9)) (pl_ne e_55 e_67 (by intro h9; simp at h9))) e_55
    have e_88 := hm_83.keep (rz_o4 (pl_ne e_57 e_62 (by intro h9; simp at h9)) (pl_ne e_57 e_64 (by intro h9; simp at h9)) (pl_ne e_57 e_66 (by intro h9; simp at h9)) (pl_ne e_57 e_67 (by intro h9; simp at h9))) e_57
    have e_89 := hm_83.keep (rz_o4 (pl_ne e_59 e_62 (by intro h9; simp at h9)) (pl_ne e_59 e_64 (by intro h9; simp at h9)) (pl_ne e_59 e_66 (by intro h9; simp at h9)) (pl_ne e_59 e_67 (by intro h9; simp at h9))) e_59
    have e_90 := hm_83.keep (rz_o4 (pl_ne e_61 e_62 (by intro h9; simp at h9)) (pl_ne e_61 e_64 (by intro h9; simp at h9)) (pl_ne e_61 e_66 (by intro h9; simp at h9)) (pl_ne e_61 e_67 (by intro h9; simp at h9))) e_61
    have e_91 := hm_83.keep (rz_o4 (pl_ne e_76 e_62 (by intro h9; simp at h9)) (pl_ne e_76 e_64 (by intro h9; simp at h9)) (by omega) (pl_ne e_76 e_67 (by intro h9; simp at h9))) e_76
    have e_92 := hm_83.keep (rz_o4 (by omega) (pl_ne e_77 e_64 (by intro h9; simp at h9)) (pl_ne e_77 e_66 (by intro h9; simp at h9)) (by omega)) e_77
    have u_93 := ht_85 _ _ u_56
    have u_94 := ht_85 _ _ u_58
    have u_95 := ht_85 _ _ u_60
    have u_96 := ht_85 _ _ u_63
    have u_97 := ht_85 _ _ u_65
    have u_98 := ht_85 _ _ u_68
    have u_99 := ht_85 _ _ u_78
    have hm_100 : sm (uy ρ [10000 + 2 * a1.toNatClampNeg, 10001 + 2 * a1.toNatClampNeg]) [7] ws_49 ws_81 := hm_83.up (fun k _ h => rz_u4 (uy_0 wdg) (uy_0 wdq) (uy_in wk_14 (List.Mem.head _)) (uy_in wr_21 (List.Mem.tail _ (List.Mem.head _))) k h)
    have hsm := hsm.tr (hm_100.mono (by decide))
    have htx := htx.tr ht_85
    obtain ⟨f_101, f_102, e_103, hd_104, e_105, h_106, e_107⟩ := hx_84
    obtain ⟨f_109, e_108⟩ := hm_83.arrJ e_64
    obtain ⟨hd_110, hf_111, hs_112⟩ := dr_told g_22 hl9 hL9 hd_104 h_106
    refine lv_aload_n hx hb dX8_jar_71 rfl (lv_at hl 3 rfl) ?_
    refine va_get (D := D) (ci := 8) (v := .ref dr) (C := RX8) (T := TX8) (N := 15) hx hb hts hin8 hown hK hP k0 e_86 rfl 6 (by decide) (hts (.fieldLink RX8 47 "HoneyHouse" "draught" "LHoneyHouse$Draught;") (List.mem_of_getElem? (i := 9) rfl)) (fun _ h9 => h9) rfl dX8_jar_72 ?_
    refine lv_aload hx hb dX8_jar_75 (lv_at hl 1 rfl) ?_
    refine lv_iload hx hb dX8_jar_77 (lv_at hl 0 rfl) ?_
    have hFc := free_all hD hS hA
    refine va_callv (va_runV (As := [.ref q_33, .int (fv 10 a1.toNatClampNeg)]) (rest := []) ⟨hx, hb, hml, hown, hts⟩ (a_fillInto l D (rz [ws.length, k_73]) ws_81 ty_82 dr kdr dg kdg cdg tdg f_101 dq kdq cdq tdq f_109 q_33 ws.length 0 0 a1 dn g_72 k_73 c9_74 t_75 (fun _ => 0) (fv 10 a1.toNatClampNeg) H.size (sm1_0 40).symm (by omega) e_90 e_103 u_96 e_108 u_97 e_91 e_92 u_99 (rz_in (by simp)) (rz_in (by simp))) (cwV 2 hts gX8_jar_X1_fillInto rfl rfl rfl (by decide +kernel) ⟨Nat.le_of_ble_eq_true rfl, Nat.le_of_ble_eq_true rfl⟩) ⟨fun a U g mk q => by obtain ⟨q0, q1, qP, qK, qD⟩ := q; exact ⟨q0, q1, qP, va_K.moved (u := U) (U := U.calling g mk a) (Vm.Alike.refl U.vm) qK, qD⟩, va_recv hK hP (ci := 1) (q0 := kdr) rfl e_90, fun U hU hW => ⟨rfl, by rw [hU], by rw [hU]; exact hP, va_K.moved hW.alike hK, hD.weaken (fun _ _ _ _ => trivial)⟩⟩ rfl rfl hl.1 rfl (lv_room (Nat.le_of_ble_eq_true rfl)) dX8_jar_79 ⟨Nat.le_of_ble_eq_true rfl, Nat.le_of_ble_eq_true rfl⟩) hS (fun q _ h => hFc q h) hFc (fun u t H1 locs ht hvm w_113 hB hz1 hk1 hS => ?_)
    obtain ⟨ws_114, ty_115, hm_116, ht_118, hP1, hK1, hD1, hx_117⟩ := hB
    rw [ht] at hP1
    have hK := va_K.moved hvm.symm hK1
    have hD := hD1.weaken (fun _ _ _ h => hFc _ h)
    generalize H1 = H at hP1 hS ⊢
    have hP := hP1
    have e_119 := hm_116.keep (rz_o2 (pl_ne e_86 e_91 (by intro h9; simp at h9)) (pl_ne e_86 e_92 (by intro h9; simp at h9))) e_86
    have e_120 := hm_116.keep (rz_o2 (pl_ne e_87 e_91 (by intro h9; simp at h9)) (pl_ne e_87 e_92 (by intro h9; simp at h9))) e_87
    have e_121 := hm_116.keep (rz_o2 (pl_ne e_88 e_91 (by intro h9; simp at h9)) (pl_ne e_88 e_92 (by intro h9; simp at h9))) e_88
    have e_122 := hm_116.keep (rz_o2 (pl_ne e_89 e_91 (by intro h9; simp at h9)) (pl_ne e_89 e_92 (by intro h9; simp at h9))) e_89
    have e_123 := hm_116.keep (rz_o2 (pl_ne e_90 e_91 (by intro h9; simp at h9)) (pl_ne e_90 e_92 (by intro h9; simp at h9))) e_90
    have e_124 := hm_116.keep (rz_o2 (pl_ne e_103 e_91 (by intro h9; simp at h9)) (by omega)) e_103
    have e_125 := hm_116.keep (rz_o2 (pl_ne e_108 e_91 (by intro h9; simp at h9)) (pl_ne e_108 e_92 (by intro h9; simp at h9))) e_108
    have e_126 := hm_116.keep (rz_o2 (by omega) (pl_ne e_107 e_92 (by intro h9; simp at h9))) e_107
    have e_127 := hm_116.keep (rz_o2 (pl_ne e_105 e_91 (by intro h9; simp at h9)) (by omega)) e_105
    have u_128 := ht_118 _ _ u_93
    have u_129 := ht_118 _ _ u_94
    have u_130 := ht_118 _ _ u_95
    have u_131 := ht_118 _ _ u_96
    have u_132 := ht_118 _ _ u_97
    have u_133 := ht_118 _ _ u_98
    have u_134 := ht_118 _ _ u_99
    have hm_135 : sm (uy ρ [10000 + 2 * a1.toNatClampNeg, 10001 + 2 * a1.toNatClampNeg]) [7] ws_81 ws_114 := hm_116.up (fun k _ h => rz_u2 (uy_0 (hle0 _ (by omega))) (uy_0 (hle0 _ (by omega))) k h)
    have hsm := hsm.tr (hm_135.mono (by decide))
    have htx := htx.tr ht_118
    obtain ⟨f_136, e_137, h_138, e_139⟩ := hx_117
    refine lv_aload_n hx hb dX8_jar_82 rfl (lv_at hl 3 rfl) ?_
    refine va_get (D := D) (ci := 8) (v := .ref ba) (C := RX8) (T := TX8) (N := 15) hx hb hts hin8 hown hK hP k0 e_119 rfl 2 (by decide) (hts (.fieldLink RX8 21 "HoneyHouse" "batches" "[LHoneyHouse$Vessel;") (List.mem_of_getElem? (i := 3) rfl)) (fun _ h9 => h9) rfl dX8_jar_83 ?_
    refine lv_aload_n hx hb dX8_jar_86 rfl (lv_at hl 3 rfl) ?_
    refine va_get (D := D) (ci := 8) (v := .int (nI bc)) (C := RX8) (T := TX8) (N := 15) hx hb hts hin8 hown hK hP k0 e_119 rfl 11 (by decide) (hts (.fieldLink RX8 170 "HoneyHouse" "batchCount" "I") (List.mem_of_getElem? (i := 2) rfl)) (fun _ h9 => h9) rfl dX8_jar_87 ?_
    refine lv_aload hx hb dX8_jar_90 (lv_at hl 1 rfl) ?_
    refine va_astq (f := fba) (n := 60) (r := (RX7, TX7, 5)) hx hb hK hP hD hS kba tba ws.length 7 e_122 u_130 e_139 rfl (vp_in_nI (n := bc) (by omega) (by omega)) dX8_jar_92 (fun H locs hP hD hS => ?_)
    have hP : va_P D vwCl (ws_114.set kba (ba, .inl (cba, 60, .inr (.inr (.inr (.inr (va_up fba (nI bc).toNatClampNeg (some q_33)))))))) H := hP
    have hD : va_D A (ws_114.set kba (ba, .inl (cba, 60, .inr (.inr (.inr (.inr (va_up fba (nI bc).toNatClampNeg (some q_33)))))))) := hD
    have e_140 := set_o (z := (ba, .inl (cba, 60, .inr (.inr (.inr (.inr (va_up fba (nI bc).toNatClampNeg (some q_33)))))))) e_119 e_122 (by intro h9; simp at h9)
    have hsm0 := hsm
    obtain ⟨ws_141, hw2⟩ : ∃ w9 : va_W, w9 = ws_114.set kba (ba, .inl (cba, 60, .inr (.inr (.inr (.inr (va_up fba (nI bc).toNatClampNeg (some q_33))))))) := ⟨_, rfl⟩
    rw [← hw2] at hP hD e_140
    have hs2 : sm (rz [k0]) [8] ws_141 ws_141 := sm.rf _
    refine lv_aload_n hx hb dX8_jar_93 rfl (lv_at hl 3 rfl) ?_
    refine lv_dup hx hb dX8_jar_94 rfl ?_
    refine va_get (D := D) (ci := 8) (v := .int (nI bc)) (C := RX8) (T := TX8) (N := 15) hx hb hts hin8 hown hK hP k0 e_140 rfl 11 (by decide) (hts (.fieldLink RX8 170 "HoneyHouse" "batchCount" "I") (List.mem_of_getElem? (i := 2) rfl)) (fun _ h9 => h9) rfl dX8_jar_95 ?_
    refine lv_iconst (v := 1) hx hb dX8_jar_98 (by decide) ?_
    refine lv_iadd hx hb dX8_jar_99 ?_
    refine tp_i (y := nI (bc + 1)) (nI_add bc 1) ?_
    refine va_put (D := D) (ci := 8) (v := .int (nI (bc + 1))) (ty := .int) (C := RX8) (T := TX8) (N := 15) hx hb hts hin8 tyX8 tyX8_ok nmX8 hown hK hP hD hS k0 e_140 rfl 11 (by decide) (hts (.fieldLink RX8 170 "HoneyHouse" "batchCount" "I") (List.mem_of_getElem? (i := 2) rfl)) (fun _ h9 => h9) rfl (tyX8_ok 11 (by decide)) rfl rfl (Nat.le_of_ble_eq_true rfl) dX8_jar_100 (fun H locs hP hD hS => ?_)
    have hP : va_P D vwCl (ws_141.set k0 (h0, .inr (8, [.ref la, .ref ta, .ref ba, .ref ra, .ref sn, .ref rd, .ref dr, .ref bl, .ref vd, .ref fb, .int (nI lc), .int (nI (bc + 1)), .int (nI rc), .int (nI fc), .int dn]))) H := hP
    have hD : va_D A (ws_141.set k0 (h0, .inr (8, [.ref la, .ref ta, .ref ba, .ref ra, .ref sn, .ref rd, .ref dr, .ref bl, .ref vd, .ref fb, .int (nI lc), .int (nI (bc + 1)), .int (nI rc), .int (nI fc), .int dn]))) := hD
    have hm_143 : sm (rz [k0]) [8] ws_141 (ws_141.set k0 (h0, .inr (8, [.ref la, .ref ta, .ref ba, .ref ra, .ref sn, .ref rd, .ref dr, .ref bl, .ref vd, .ref fb, .int (nI lc), .int (nI (bc + 1)), .int (nI rc), .int (nI fc), .int dn]))) := sm.flds e_140 (smF.c (smV.rf _) (smF.c (smV.rf _) (smF.c (smV.rf _) (smF.c (smV.rf _) (smF.c (smV.rf _) (smF.c (smV.rf _) (smF.c (smV.rf _) (smF.c (smV.rf _) (smF.c (smV.rf _) (smF.c (smV.rf _) (smF.c (smV.rf _) (smF.c (smV.i _ _) (smF.c (smV.rf _) (smF.c (smV.rf _) (smF.c (smV.rf _) (rfl)))))))))))))))) (List.mem_singleton.mpr rfl) (rz_in (by simp))
    have e_144 : (ws_141.set k0 (h0, .inr (8, [.ref la, .ref ta, .ref ba, .ref ra, .ref sn, .ref rd, .ref dr, .ref bl, .ref vd, .ref fb, .int (nI lc), .int (nI (bc + 1)), .int (nI rc), .int (nI fc), .int dn])))[k0]? = some (h0, .inr (8, [.ref la, .ref ta, .ref ba, .ref ra, .ref sn, .ref rd, .ref dr, .ref bl, .ref vd, .ref fb, .int (nI lc), .int (nI (bc + 1)), .int (nI rc), .int (nI fc), .int dn])) := wset_self e_140
    generalize ws_141.set k0 (h0, .inr (8, [.ref la, .ref ta, .ref ba, .ref ra, .ref sn, .ref rd, .ref dr, .ref bl, .ref vd, .ref fb, .int (nI lc), .int (nI (bc + 1)), .int (nI rc), .int (nI fc), .int dn])) = ws_142 at hP hD hm_143 e_144
    have hs2 := hs2.tr (hm_143.mono (by decide))
    refine lv_aload_n hx hb dX8_jar_103 rfl (lv_at hl 3 rfl) ?_
    refine va_get (D := D) (ci := 8) (v := .int (nI (bc + 1))) (C := RX8) (T := TX8) (N := 15) hx hb hts hin8 hown hK hP k0 e_144 rfl 11 (by decide) (hts (.fieldLink RX8 170 "HoneyHouse" "batchCount" "I") (List.mem_of_getElem? (i := 2) rfl)) (fun _ h9 => h9) rfl dX8_jar_104 ?_
    refine lv_iconst (v := 1) hx hb dX8_jar_107 (by decide) ?_
    refine lv_isub hx hb dX8_jar_108 ?_
    refine tp_i (y := nI ((bc + 1) - 1)) (pk_sub (a := bc + 1) (b := 1) (by omega)) ?_
    refine W.widen (k := 2) (n := 45) (by omega) (by omega) ?_
    exact W.iret (v := nI ((bc + 1) - 1)) hx hb hr (fun t ht hW => ⟨⟨nI ((bc + 1) - 1), (), rfl, Or.inr ⟨(fun h9 => Or.elim h9 (fun h => Or.elim h a_5 b_6) (fun h9 => Or.elim h9 (fun h => Or.elim h a_25 b_26) (fun h9 => absurd h9 (by omega)))), by rw [show bc + 1 - 1 = bc by omega]⟩, ws_142, ty_115, by rw [ht]; exact hP, va_K.moved hW.alike hK, hD, Or.inr ⟨(fun h9 => Or.elim h9 (fun h => Or.elim h a_5 b_6) (fun h9 => Or.elim h9 (fun h => Or.elim h a_25 b_26) (fun h9 => absurd h9 (by omega)))), xi_jar rfl hk0 w0 hle0 hnum (by omega) hj_7 qla qra qsn qrd qdr qbl qvd qfb e_121 u_129 hta0 hta1 e_122 u_130 hba0 hba1 hsm0 htx hg_9 lt_31 lt_32 wk_14 wr_21 e_126 hs_112 e_127 u_133 hf_111 e_139 (if_pos rfl) e_137 u_134 (fun i hi => by rw [h_138 i hi, hd_110 i hi]; exact Int32.zero_add _) (by omega) (by omega) hw2 hs2 e_144⟩⟩, hS.F ht⟩) hS.2.2 dX8_jar_109
  have d_145 := n_nlt (a := bc) (b := 60) (by omega) (by omega) c_29
  refine lv_bipush (v := (-3)) hx hb dX8_jar_39 (by decide) ?_
  refine W.widen (k := 2) (n := 45) (by omega) (by omega) ?_
  exact W.iret (v := (-3)) hx hb hr (fun t ht hW => ⟨⟨(-3), (), rfl, Or.inl ⟨Or.inr (Or.inr (show bc = 60 by omega)), (by rw [if_neg (fun h => Or.elim h a_5 b_6), if_neg (fun h => Or.elim h a_25 b_26)])⟩, ws, tys, by rw [ht]; exact hP, va_K.moved hW.alike hK, hD, Or.inl ⟨Or.inr (Or.inr (show bc = 60 by omega)), X⟩⟩, hS.F ht⟩) hS.2.2 dX8_jar_41
