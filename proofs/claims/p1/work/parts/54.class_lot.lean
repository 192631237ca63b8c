theorem dJ7_fill_53178_0 : decode cJ7_fill_53178 0 = .ok (.iconst 0, 1) := by decide +kernel
theorem dJ7_fill_53178_1 : decode cJ7_fill_53178 1 = .ok (.istore_n 2, 1) := by decide +kernel
theorem dJ7_fill_53178_2 : decode cJ7_fill_53178 2 = .ok (.aload_n 0, 1) := by decide +kernel
theorem dJ7_fill_53178_3 : decode cJ7_fill_53178 3 = .ok (.arraylength, 1) := by decide +kernel
theorem dJ7_fill_53178_4 : decode cJ7_fill_53178 4 = .ok (.istore_n 3, 1) := by decide +kernel
theorem dJ7_fill_53178_5 : decode cJ7_fill_53178 5 = .ok (.iload_n 2, 1) := by decide +kernel
theorem dJ7_fill_53178_6 : decode cJ7_fill_53178 6 = .ok (.iload_n 3, 1) := by decide +kernel
theorem dJ7_fill_53178_7 : decode cJ7_fill_53178 7 = .ok (.if_icmp .ge 13, 3) := by decide +kernel
theorem dJ7_fill_53178_10 : decode cJ7_fill_53178 10 = .ok (.aload_n 0, 1) := by decide +kernel
theorem dJ7_fill_53178_11 : decode cJ7_fill_53178 11 = .ok (.iload_n 2, 1) := by decide +kernel
theorem dJ7_fill_53178_12 : decode cJ7_fill_53178 12 = .ok (.iload_n 1, 1) := by decide +kernel
theorem dJ7_fill_53178_13 : decode cJ7_fill_53178 13 = .ok (.iastore, 1) := by decide +kernel
theorem dJ7_fill_53178_14 : decode cJ7_fill_53178 14 = .ok (.iinc 2 1, 3) := by decide +kernel
theorem dJ7_fill_53178_17 : decode cJ7_fill_53178 17 = .ok (.goto (-12), 3) := by decide +kernel
theorem dJ7_fill_53178_20 : decode cJ7_fill_53178 20 = .ok (.return_, 1) := by decide +kernel
theorem dX5_copyFrom_0 : decode cX5_copyFrom 0 = .ok (.aload_n 1, 1) := by decide +kernel
theorem dX5_copyFrom_1 : decode cX5_copyFrom 1 = .ok (.getfield 9, 3) := by decide +kernel
theorem dX5_copyFrom_4 : decode cX5_copyFrom 4 = .ok (.iconst 0, 1) := by decide +kernel
theorem dX5_copyFrom_5 : decode cX5_copyFrom 5 = .ok (.aload_n 0, 1) := by decide +kernel
theorem dX5_copyFrom_6 : decode cX5_copyFrom 6 = .ok (.getfield 9, 3) := by decide +kernel
theorem dX5_copyFrom_9 : decode cX5_copyFrom 9 = .ok (.iconst 0, 1) := by decide +kernel
theorem dX5_copyFrom_10 : decode cX5_copyFrom 10 = .ok (.iconst 4, 1) := by decide +kernel
theorem dX5_copyFrom_11 : decode cX5_copyFrom 11 = .ok (.invokestatic 18, 3) := by decide +kernel
theorem dX5_copyFrom_14 : decode cX5_copyFrom 14 = .ok (.aload_n 1, 1) := by decide +kernel
theorem dX5_copyFrom_15 : decode cX5_copyFrom 15 = .ok (.getfield 15, 3) := by decide +kernel
theorem dX5_copyFrom_18 : decode cX5_copyFrom 18 = .ok (.iconst 0, 1) := by decide +kernel
theorem dX5_copyFrom_19 : decode cX5_copyFrom 19 = .ok (.aload_n 0, 1) := by decide +kernel
theorem dX5_copyFrom_20 : decode cX5_copyFrom 20 = .ok (.getfield 15, 3) := by decide +kernel
theorem dX5_copyFrom_23 : decode cX5_copyFrom 23 = .ok (.iconst 0, 1) := by decide +kernel
theorem dX5_copyFrom_24 : decode cX5_copyFrom 24 = .ok (.iconst 4, 1) := by decide +kernel
theorem dX5_copyFrom_25 : decode cX5_copyFrom 25 = .ok (.invokestatic 18, 3) := by decide +kernel
theorem dX5_copyFrom_28 : decode cX5_copyFrom 28 = .ok (.return_, 1) := by decide +kernel
theorem dX5_payFor_0 : decode cX5_payFor 0 = .ok (.iconst 0, 1) := by decide +kernel
theorem dX5_payFor_1 : decode cX5_payFor 1 = .ok (.istore_n 3, 1) := by decide +kernel
theorem dX5_payFor_2 : decode cX5_payFor 2 = .ok (.iload_n 3, 1) := by decide +kernel
theorem dX5_payFor_3 : decode cX5_payFor 3 = .ok (.iconst 4, 1) := by decide +kernel
theorem dX5_payFor_4 : decode cX5_payFor 4 = .ok (.if_icmp .ge 35, 3) := by decide +kernel
theorem dX5_payFor_7 : decode cX5_payFor 7 = .ok (.iload_n 2, 1) := by decide +kernel
theorem dX5_payFor_8 : decode cX5_payFor 8 = .ok (.aload_n 0, 1) := by decide +kernel
theorem dX5_payFor_9 : decode cX5_payFor 9 = .ok (.getfield 9, 3) := by decide +kernel
theorem dX5_payFor_12 : decode cX5_payFor 12 = .ok (.iload_n 3, 1) := by decide +kernel
theorem dX5_payFor_13 : decode cX5_payFor 13 = .ok (.iaload, 1) := by decide +kernel
theorem dX5_payFor_14 : decode cX5_payFor 14 = .ok (.if_icmp .gt 19, 3) := by decide +kernel
theorem dX5_payFor_17 : decode cX5_payFor 17 = .ok (.iload_n 1, 1) := by decide +kernel
theorem dX5_payFor_18 : decode cX5_payFor 18 = .ok (.i2l, 1) := by decide +kernel
theorem dX5_payFor_19 : decode cX5_payFor 19 = .ok (.aload_n 0, 1) := by decide +kernel
theorem dX5_payFor_20 : decode cX5_payFor 20 = .ok (.getfield 15, 3) := by decide +kernel
theorem dX5_payFor_23 : decode cX5_payFor 23 = .ok (.iload_n 3, 1) := by decide +kernel
theorem dX5_payFor_24 : decode cX5_payFor 24 = .ok (.iaload, 1) := by decide +kernel
theorem dX5_payFor_25 : decode cX5_payFor 25 = .ok (.i2l, 1) := by decide +kernel
theorem dX5_payFor_26 : decode cX5_payFor 26 = .ok (.lmul, 1) := by decide +kernel
theorem dX5_payFor_27 : decode cX5_payFor 27 = .ok (.ldc2_w 24, 3) := by decide +kernel
theorem dX5_payFor_30 : decode cX5_payFor 30 = .ok (.ldiv, 1) := by decide +kernel
theorem dX5_payFor_31 : decode cX5_payFor 31 = .ok (.l2i, 1) := by decide +kernel
theorem dX5_payFor_32 : decode cX5_payFor 32 = .ok (.ireturn, 1) := by decide +kernel
theorem dX5_payFor_33 : decode cX5_payFor 33 = .ok (.iinc 3 1, 3) := by decide +kernel
theorem dX5_payFor_36 : decode cX5_payFor 36 = .ok (.goto (-34), 3) := by decide +kernel
theorem dX5_payFor_39 : decode cX5_payFor 39 = .ok (.iconst 0, 1) := by decide +kernel
theorem dX5_payFor_40 : decode cX5_payFor 40 = .ok (.ireturn, 1) := by decide +kernel
theorem dX2_init_0 : decode cX2_init 0 = .ok (.aload_n 0, 1) := by decide +kernel
theorem dX2_init_1 : decode cX2_init 1 = .ok (.invokespecial 3, 3) := by decide +kernel
theorem dX2_init_4 : decode cX2_init 4 = .ok (.aload_n 0, 1) := by decide +kernel
theorem dX2_init_5 : decode cX2_init 5 = .ok (.iconst 5, 1) := by decide +kernel
theorem dX2_init_6 : decode cX2_init 6 = .ok (.newarray .int, 2) := by decide +kernel
theorem dX2_init_8 : decode cX2_init 8 = .ok (.putfield 9, 3) := by decide +kernel
theorem dX2_init_11 : decode cX2_init 11 = .ok (.aload_n 0, 1) := by decide +kernel
theorem dX2_init_12 : decode cX2_init 12 = .ok (.iconst 5, 1) := by decide +kernel
theorem dX2_init_13 : decode cX2_init 13 = .ok (.newarray .int, 2) := by decide +kernel
theorem dX2_init_15 : decode cX2_init 15 = .ok (.putfield 15, 3) := by decide +kernel
theorem dX2_init_18 : decode cX2_init 18 = .ok (.aload_n 0, 1) := by decide +kernel
theorem dX2_init_19 : decode cX2_init 19 = .ok (.new 18, 3) := by decide +kernel
theorem dX2_init_22 : decode cX2_init 22 = .ok (.dup, 1) := by decide +kernel
theorem dX2_init_23 : decode cX2_init 23 = .ok (.invokespecial 20, 3) := by decide +kernel
theorem dX2_init_26 : decode cX2_init 26 = .ok (.putfield 21, 3) := by decide +kernel
theorem dX2_init_29 : decode cX2_init 29 = .ok (.aload_n 0, 1) := by decide +kernel
theorem dX2_init_30 : decode cX2_init 30 = .ok (.iload_n 1, 1) := by decide +kernel
theorem dX2_init_31 : decode cX2_init 31 = .ok (.putfield 25, 3) := by decide +kernel
theorem dX2_init_34 : decode cX2_init 34 = .ok (.aload_n 0, 1) := by decide +kernel
theorem dX2_init_35 : decode cX2_init 35 = .ok (.iload_n 2, 1) := by decide +kernel
theorem dX2_init_36 : decode cX2_init 36 = .ok (.putfield 29, 3) := by decide +kernel
theorem dX2_init_39 : decode cX2_init 39 = .ok (.aload_n 0, 1) := by decide +kernel
theorem dX2_init_40 : decode cX2_init 40 = .ok (.iload_n 3, 1) := by decide +kernel
theorem dX2_init_41 : decode cX2_init 41 = .ok (.putfield 32, 3) := by decide +kernel
theorem dX2_init_44 : decode cX2_init 44 = .ok (.aload_n 0, 1) := by decide +kernel
theorem dX2_init_45 : decode cX2_init 45 = .ok (.iload 4, 2) := by decide +kernel
theorem dX2_init_47 : decode cX2_init 47 = .ok (.putfield 35, 3) := by decide +kernel
theorem dX2_init_50 : decode cX2_init 50 = .ok (.aload_n 0, 1) := by decide +kernel
theorem dX2_init_51 : decode cX2_init 51 = .ok (.iload 5, 2) := by decide +kernel
theorem dX2_init_53 : decode cX2_init 53 = .ok (.putfield 38, 3) := by decide +kernel
theorem dX2_init_56 : decode cX2_init 56 = .ok (.aload_n 0, 1) := by decide +kernel
theorem dX2_init_57 : decode cX2_init 57 = .ok (.getfield 15, 3) := by decide +kernel
theorem dX2_init_60 : decode cX2_init 60 = .ok (.sipush 1000, 3) := by decide +kernel
theorem dX2_init_63 : decode cX2_init 63 = .ok (.invokestatic 41, 3) := by decide +kernel
theorem dX2_init_66 : decode cX2_init 66 = .ok (.aload_n 0, 1) := by decide +kernel
theorem dX2_init_67 : decode cX2_init 67 = .ok (.getfield 21, 3) := by decide +kernel
theorem dX2_init_70 : decode cX2_init 70 = .ok (.aload 6, 2) := by decide +kernel
theorem dX2_init_72 : decode cX2_init 72 = .ok (.invokevirtual 47, 3) := by decide +kernel
theorem dX2_init_75 : decode cX2_init 75 = .ok (.aload_n 0, 1) := by decide +kernel
theorem dX2_init_76 : decode cX2_init 76 = .ok (.iload_n 2, 1) := by decide +kernel
theorem dX2_init_77 : decode cX2_init 77 = .ok (.putfield 51, 3) := by decide +kernel
theorem dX2_init_80 : decode cX2_init 80 = .ok (.aload_n 0, 1) := by decide +kernel
theorem dX2_init_81 : decode cX2_init 81 = .ok (.aload_n 0, 1) := by decide +kernel
theorem dX2_init_82 : decode cX2_init 82 = .ok (.getfield 21, 3) := by decide +kernel
theorem dX2_init_85 : decode cX2_init 85 = .ok (.iload_n 2, 1) := by decide +kernel
theorem dX2_init_86 : decode cX2_init 86 = .ok (.iload_n 3, 1) := by decide +kernel
theorem dX2_init_87 : decode cX2_init 87 = .ok (.invokevirtual 54, 3) := by decide +kernel
theorem dX2_init_90 : decode cX2_init 90 = .ok (.putfield 58, 3) := by decide +kernel
theorem dX2_init_93 : decode cX2_init 93 = .ok (.return_, 1) := by decide +kernel
theorem dX8_lot_0 : decode cX8_lot 0 = .ok (.iload_n 1, 1) := by decide +kernel
theorem dX8_lot_1 : decode cX8_lot 1 = .ok (.iconst 0, 1) := by decide +kernel
theorem dX8_lot_2 : decode cX8_lot 2 = .ok (.bipush 9, 2) := by decide +kernel
theorem dX8_lot_4 : decode cX8_lot 4 = .ok (.invokestatic 85, 3) := by decide +kernel
theorem dX8_lot_7 : decode cX8_lot 7 = .ok (.ifCond .eq 51, 3) := by decide +kernel
theorem dX8_lot_10 : decode cX8_lot 10 = .ok (.iload_n 2, 1) := by decide +kernel
theorem dX8_lot_11 : decode cX8_lot 11 = .ok (.iconst 1, 1) := by decide +kernel
theorem dX8_lot_12 : decode cX8_lot 12 = .ok (.ldc 89, 2) := by decide +kernel
theorem dX8_lot_14 : decode cX8_lot 14 = .ok (.invokestatic 85, 3) := by decide +kernel
theorem dX8_lot_17 : decode cX8_lot 17 = .ok (.ifCond .eq 41, 3) := by decide +kernel
theorem dX8_lot_20 : decode cX8_lot 20 = .ok (.iload_n 3, 1) := by decide +kernel
theorem dX8_lot_21 : decode cX8_lot 21 = .ok (.bipush 100, 2) := by decide +kernel
theorem dX8_lot_23 : decode cX8_lot 23 = .ok (.sipush 300, 3) := by decide +kernel
theorem dX8_lot_26 : decode cX8_lot 26 = .ok (.invokestatic 85, 3) := by decide +kernel
theorem dX8_lot_29 : decode cX8_lot 29 = .ok (.ifCond .eq 29, 3) := by decide +kernel
theorem dX8_lot_32 : decode cX8_lot 32 = .ok (.iload 4, 2) := by decide +kernel
theorem dX8_lot_34 : decode cX8_lot 34 = .ok (.iconst 0, 1) := by decide +kernel
theorem dX8_lot_35 : decode cX8_lot 35 = .ok (.sipush 140, 3) := by decide +kernel
theorem dX8_lot_38 : decode cX8_lot 38 = .ok (.invokestatic 85, 3) := by decide +kernel
theorem dX8_lot_41 : decode cX8_lot 41 = .ok (.ifCond .eq 17, 3) := by decide +kernel
theorem dX8_lot_44 : decode cX8_lot 44 = .ok (.iload 5, 2) := by decide +kernel
theorem dX8_lot_46 : decode cX8_lot 46 = .ok (.iconst 0, 1) := by decide +kernel
theorem dX8_lot_47 : decode cX8_lot 47 = .ok (.iconst 3, 1) := by decide +kernel
theorem dX8_lot_48 : decode cX8_lot 48 = .ok (.invokestatic 85, 3) := by decide +kernel
theorem dX8_lot_51 : decode cX8_lot 51 = .ok (.ifCond .eq 7, 3) := by decide +kernel
theorem dX8_lot_54 : decode cX8_lot 54 = .ok (.iconst 1, 1) := by decide +kernel
theorem dX8_lot_55 : decode cX8_lot 55 = .ok (.goto 4, 3) := by decide +kernel
theorem dX8_lot_58 : decode cX8_lot 58 = .ok (.iconst 0, 1) := by decide +kernel
theorem dX8_lot_59 : decode cX8_lot 59 = .ok (.istore 6, 2) := by decide +kernel
theorem dX8_lot_61 : decode cX8_lot 61 = .ok (.iload 6, 2) := by decide +kernel
theorem dX8_lot_63 : decode cX8_lot 63 = .ok (.ifCond .eq 15, 3) := by decide +kernel
theorem dX8_lot_66 : decode cX8_lot 66 = .ok (.aload_n 0, 1) := by decide +kernel
theorem dX8_lot_67 : decode cX8_lot 67 = .ok (.getfield 90, 3) := by decide +kernel
theorem dX8_lot_70 : decode cX8_lot 70 = .ok (.aload_n 0, 1) := by decide +kernel
theorem dX8_lot_71 : decode cX8_lot 71 = .ok (.getfield 11, 3) := by decide +kernel
theorem dX8_lot_74 : decode cX8_lot 74 = .ok (.arraylength, 1) := by decide +kernel
theorem dX8_lot_75 : decode cX8_lot 75 = .ok (.if_icmp .lt 5, 3) := by decide +kernel
theorem dX8_lot_78 : decode cX8_lot 78 = .ok (.iconst (-1), 1) := by decide +kernel
theorem dX8_lot_79 : decode cX8_lot 79 = .ok (.ireturn, 1) := by decide +kernel
theorem dX8_lot_80 : decode cX8_lot 80 = .ok (.aload_n 0, 1) := by decide +kernel
theorem dX8_lot_81 : decode cX8_lot 81 = .ok (.getfield 11, 3) := by decide +kernel
theorem dX8_lot_84 : decode cX8_lot 84 = .ok (.aload_n 0, 1) := by decide +kernel
theorem dX8_lot_85 : decode cX8_lot 85 = .ok (.getfield 90, 3) := by decide +kernel
theorem dX8_lot_88 : decode cX8_lot 88 = .ok (.new 9, 3) := by decide +kernel
theorem dX8_lot_91 : decode cX8_lot 91 = .ok (.dup, 1) := by decide +kernel
theorem dX8_lot_92 : decode cX8_lot 92 = .ok (.iload_n 1, 1) := by decide +kernel
theorem dX8_lot_93 : decode cX8_lot 93 = .ok (.iload_n 2, 1) := by decide +kernel
theorem dX8_lot_94 : decode cX8_lot 94 = .ok (.iload_n 3, 1) := by decide +kernel
theorem dX8_lot_95 : decode cX8_lot 95 = .ok (.iload 4, 2) := by decide +kernel
theorem dX8_lot_97 : decode cX8_lot 97 = .ok (.iload 5, 2) := by decide +kernel
theorem dX8_lot_99 : decode cX8_lot 99 = .ok (.aload_n 0, 1) := by decide +kernel
theorem dX8_lot_100 : decode cX8_lot 100 = .ok (.getfield 33, 3) := by decide +kernel
theorem dX8_lot_103 : decode cX8_lot 103 = .ok (.invokespecial 93, 3) := by decide +kernel
theorem dX8_lot_106 : decode cX8_lot 106 = .ok (.aastore, 1) := by decide +kernel
theorem dX8_lot_107 : decode cX8_lot 107 = .ok (.aload_n 0, 1) := by decide +kernel
theorem dX8_lot_108 : decode cX8_lot 108 = .ok (.dup, 1) := by decide +kernel
theorem dX8_lot_109 : decode cX8_lot 109 = .ok (.getfield 90, 3) := by decide +kernel
theorem dX8_lot_112 : decode cX8_lot 112 = .ok (.iconst 1, 1) := by decide +kernel
theorem dX8_lot_113 : decode cX8_lot 113 = .ok (.iadd, 1) := by decide +kernel
theorem dX8_lot_114 : decode cX8_lot 114 = .ok (.putfield 90, 3) := by decide +kernel
theorem dX8_lot_117 : decode cX8_lot 117 = .ok (.aload_n 0, 1) := by decide +kernel
theorem dX8_lot_118 : decode cX8_lot 118 = .ok (.getfield 90, 3) := by decide +kernel
theorem dX8_lot_121 : decode cX8_lot 121 = .ok (.iconst 1, 1) := by decide +kernel
theorem dX8_lot_122 : decode cX8_lot 122 = .ok (.isub, 1) := by decide +kernel
theorem dX8_lot_123 : decode cX8_lot 123 = .ok (.ireturn, 1) := by decide +kernel
set_option maxRecDepth 20000 in
theorem ggX2_init_X5_init : GoodIn wsX2_init wsX5_init := goodIn_r _ [19, 20, 2, 3, 4, 21, 22, 50, 51] (by decide +kernel) (by decide +kernel)
set_option maxRecDepth 20000 in
theorem gX2_init_X5_init_n20 : GoodIn wsX2_init (wsX5_init) := ggX2_init_X5_init
set_option maxRecDepth 20000 in
theorem ggX2_init_J7_fill_53178 : GoodIn wsX2_init wsJ7_fill_53178 := goodIn_r _ [26] (by decide +kernel) (by decide +kernel)
set_option maxRecDepth 20000 in
theorem gX2_init_J7_fill_53178 : GoodIn wsX2_init (va_wsS RX2 41 yJ7_fill_53178 wsJ7_fill_53178) := goodIn_app (goodIn_of _ (by decide +kernel)) ggX2_init_J7_fill_53178
set_option maxRecDepth 20000 in
theorem ggX2_init_X5_copyFrom : GoodIn wsX2_init wsX5_copyFrom := goodIn_r _ [30, 21, 31, 32, 33, 34, 22, 50, 51] (by decide +kernel) (by decide +kernel)
set_option maxRecDepth 20000 in
theorem gX2_init_X5_copyFrom : GoodIn wsX2_init (wsV RX2 47 RX5 yX5_copyFrom wsX5_copyFrom) := goodIn_app (goodIn_of _ (by decide +kernel)) ggX2_init_X5_copyFrom
set_option maxRecDepth 20000 in
theorem ggX2_init_X5_payFor : GoodIn wsX2_init wsX5_payFor := goodIn_r _ [38, 21, 22, 39, 50, 51] (by decide +kernel) (by decide +kernel)
set_option maxRecDepth 20000 in
theorem gX2_init_X5_payFor : GoodIn wsX2_init (wsV RX2 54 RX5 yX5_payFor wsX5_payFor) := goodIn_app (goodIn_of _ (by decide +kernel)) ggX2_init_X5_payFor
set_option maxRecDepth 20000 in
theorem ggX8_lot_X8_isIn : GoodIn wsX8_lot wsX8_isIn := goodIn_r _ [11] (by decide +kernel) (by decide +kernel)
set_option maxRecDepth 20000 in
theorem gX8_lot_X8_isIn : GoodIn wsX8_lot (va_wsS RX8 85 yX8_isIn wsX8_isIn) := goodIn_app (goodIn_of _ (by decide +kernel)) ggX8_lot_X8_isIn
set_option maxRecDepth 20000 in
theorem ggX8_lot_X2_init : GoodIn wsX8_lot wsX2_init := goodIn_r _ [14, 15, 16, 17, 18, 19, 20, 21, 22, 23, 24, 25, 26, 27, 28, 29, 30, 31, 32, 33, 34, 35, 36, 37, 38, 39, 40, 41, 42, 43, 44, 45, 46, 47, 48, 49, 50, 51, 52, 53, 69, 70, 71, 72, 73, 74, 75, 76, 77, 78, 79, 80] (by decide +kernel) (by decide +kernel)
set_option maxRecDepth 20000 in
theorem gX8_lot_X2_init : GoodIn wsX8_lot (wsX2_init) := ggX8_lot_X2_init
set_option maxHeartbeats 4000000 in
set_option maxRecDepth 100000 in
theorem q_J7_fill5 (l : Launch) (D : va_G) (q : Nat) (y : ClassId) (f : Nat → Int32) (a2 : Int32) (sz : Nat)  : Met l yJ7_fill_53178 wsJ7_fill_53178 ({ frames := 0, cells := 0, slots := 0, locals := 0 }) (va_Pc [.ref q, .int a2] (fun U => U.heap.size = sz ∧ va_P D vwCl [(q, .inl (y, 5, .inl f))] U.heap ∧ va_K D vwCl [(y, .int)] U ∧ va_D (fun _ => True) [(q, .inl (y, 5, .inl f))])) (va_Qv (fun _ : Unit => True) (fun (_ : Unit) (t : State) => ∃ (f1 : Nat → Int32), va_P D vwCl [(q, .inl (y, 5, .inl f1))] t.heap ∧ va_K D vwCl [(y, .int)] t ∧ va_D (va_A [(q, .inl (y, 5, .inl f))] sz) [(q, .inl (y, 5, .inl f1))]) (va_A [(q, .inl (y, 5, .inl f))] sz)) 0 0 (va_A [(q, .inl (y, 5, .inl f))] sz) := by
  refine Met.ofW (cc := cJ7_fill_53178) (maxL := 4) (ret := none) (by decide) rfl ?_
  intro p e s m args below meth c s₁ B hml hv
  obtain ⟨rfl, hsz, hP, hK, hD0⟩ := hv
  have hx := B.exec
  have hb := B.bytes
  have hr := B.returns
  have hts := atoms_spec (ws := wsJ7_fill_53178) B.pre
  have hown : s.vm.findClass RJ7 = some m.cls := findClass_of_methodNamed B.named
  have hlocks := B.notSynchronized
  subst hsz
  have hD := hD0.self (sz := s.heap.size)
  generalize hAe : va_A [(q, .inl (y, 5, .inl f))] s.heap.size = A at hD ⊢
  have hA : ∀ q : Nat, s.heap.size ≤ q → A q := fun q h => by rw [← hAe]; exact Or.inr h
  have hS : va_S A s.heap s.heap [] := va_S.rf
  have hP : va_P D vwCl [(q, .inl (y, 5, .inl f))] s.heap := hP
  have hl := lv_entry ([.ref q, .int a2]) (n := 4) (Nat.le_of_ble_eq_true rfl)
  rw [lg_entry_eq]
  generalize (lg_sl ([.ref q, .int a2]) ++ List.replicate (4 - (lg_sl ([.ref q, .int a2])).length) Slot.unset).toArray = ls at hl ⊢
  have hl : lv_has ls 4 [(0, .ref q), (1, .int a2)] := hl
  refine lv_iconst (v := 0) hx hb dJ7_fill_53178_0 (by decide) ?_
  refine lv_istore_n (lv' := [(2, .int 0), (0, .ref q), (1, .int a2)]) hx hb dJ7_fill_53178_1 rfl hl (by decide) rfl (fun ls hl => ?_)
  refine lv_aload_n hx hb dJ7_fill_53178_2 rfl (lv_at hl 1 rfl) ?_
  refine va_alen (v := 5) hx hb hK hP 0 0 rfl rfl rfl dJ7_fill_53178_3 ?_
  refine lv_istore_n (lv' := [(3, .int 5), (2, .int 0), (0, .ref q), (1, .int a2)]) hx hb dJ7_fill_53178_4 rfl hl (by decide) rfl (fun ls hl => ?_)
  refine lv_iload_n hx hb dJ7_fill_53178_5 rfl (lv_at hl 1 rfl) ?_
  refine lv_iload_n hx hb dJ7_fill_53178_6 rfl (lv_at hl 0 rfl) ?_
  refine lv_icmp_ge (tgt := 20) hx hb dJ7_fill_53178_7 (by decide) (fun c_1 => absurd c_1 (by decide)) (fun c_1 => ?_)
  refine lv_aload_n hx hb dJ7_fill_53178_10 rfl (lv_at hl 2 rfl) ?_
  refine lv_iload_n hx hb dJ7_fill_53178_11 rfl (lv_at hl 1 rfl) ?_
  refine lv_iload_n hx hb dJ7_fill_53178_12 rfl (lv_at hl 3 rfl) ?_
  refine va_iast (f := f) (n := 5) hx hb hK hP hD hS 0 0 rfl rfl (vp_in_iff.mpr (by decide)) dJ7_fill_53178_13 (fun H locs hP hD hS => ?_)
  have hP : va_P D vwCl [(q, .inl (y, 5, .inl (upd f 0 a2)))] H := hP
  have hD : va_D A [(q, .inl (y, 5, .inl (upd f 0 a2)))] := hD
  generalize upd f 0 a2 = f_2 at hP hD
  have hP : va_P D vwCl [(q, .inl (y, 5, .inl f_2))] H := hP
  have hD : va_D A [(q, .inl (y, 5, .inl f_2))] := hD
  refine lv_iinc (v := 1) (lv' := [(2, .int 1), (3, .int 5), (0, .ref q), (1, .int a2)]) hx hb dJ7_fill_53178_14 hl (k := 1) rfl (by decide) (by decide) rfl (fun ls hl => ?_)
  refine lv_goto (tgt := 5) hx hb dJ7_fill_53178_17 (by decide) ?_
  refine lv_iload_n hx hb dJ7_fill_53178_5 rfl (lv_at hl 0 rfl) ?_
  refine lv_iload_n hx hb dJ7_fill_53178_6 rfl (lv_at hl 1 rfl) ?_
  refine lv_icmp_ge (tgt := 20) hx hb dJ7_fill_53178_7 (by decide) (fun c_3 => absurd c_3 (by decide)) (fun c_3 => ?_)
  refine lv_aload_n hx hb dJ7_fill_53178_10 rfl (lv_at hl 2 rfl) ?_
  refine lv_iload_n hx hb dJ7_fill_53178_11 rfl (lv_at hl 0 rfl) ?_
  refine lv_iload_n hx hb dJ7_fill_53178_12 rfl (lv_at hl 3 rfl) ?_
  refine va_iast (f := f_2) (n := 5) hx hb hK hP hD hS 0 0 rfl rfl (vp_in_iff.mpr (by decide)) dJ7_fill_53178_13 (fun H locs hP hD hS => ?_)
  have hP : va_P D vwCl [(q, .inl (y, 5, .inl (upd f_2 1 a2)))] H := hP
  have hD : va_D A [(q, .inl (y, 5, .inl (upd f_2 1 a2)))] := hD
  generalize upd f_2 1 a2 = f_4 at hP hD
  have hP : va_P D vwCl [(q, .inl (y, 5, .inl f_4))] H := hP
  have hD : va_D A [(q, .inl (y, 5, .inl f_4))] := hD
  refine lv_iinc (v := 2) (lv' := [(2, .int 2), (3, .int 5), (0, .ref q), (1, .int a2)]) hx hb dJ7_fill_53178_14 hl (k := 0) rfl (by decide) (by decide) rfl (fun ls hl => ?_)
  refine lv_goto (tgt := 5) hx hb dJ7_fill_53178_17 (by decide) ?_
  refine lv_iload_n hx hb dJ7_fill_53178_5 rfl (lv_at hl 0 rfl) ?_
  refine lv_iload_n hx hb dJ7_fill_53178_6 rfl (lv_at hl 1 rfl) ?_
  refine lv_icmp_ge (tgt := 20) hx hb dJ7_fill_53178_7 (by decide) (fun c_5 => absurd c_5 (by decide)) (fun c_5 => ?_)
  refine lv_aload_n hx hb dJ7_fill_53178_10 rfl (lv_at hl 2 rfl) ?_
  refine lv_iload_n hx hb dJ7_fill_53178_11 rfl (lv_at hl 0 rfl) ?_
  refine lv_iload_n hx hb dJ7_fill_53178_12 rfl (lv_at hl 3 rfl) ?_
  refine va_iast (f := f_4) (n := 5) hx hb hK hP hD hS 0 0 rfl rfl (vp_in_iff.mpr (by decide)) dJ7_fill_53178_13 (fun H locs hP hD hS => ?_)
  have hP : va_P D vwCl [(q, .inl (y, 5, .inl (upd f_4 2 a2)))] H := hP
  have hD : va_D A [(q, .inl (y, 5, .inl (upd f_4 2 a2)))] := hD
  generalize upd f_4 2 a2 = f_6 at hP hD
  have hP : va_P D vwCl [(q, .inl (y, 5, .inl f_6))] H := hP
  have hD : va_D A [(q, .inl (y, 5, .inl f_6))] := hD
  refine lv_iinc (v := 3) (lv' := [(2, .int 3), (3, .int 5), (0, .ref q), (1, .int a2)]) hx hb dJ7_fill_53178_14 hl (k := 0) rfl (by decide) (by decide) rfl (fun ls hl => ?_)
  refine lv_goto (tgt := 5) hx hb dJ7_fill_53178_17 (by decide) ?_
  refine lv_iload_n hx hb dJ7_fill_53178_5 rfl (lv_at hl 0 rfl) ?_
  refine lv_iload_n hx hb dJ7_fill_53178_6 rfl (lv_at hl 1 rfl) ?_
  refine lv_icmp_ge (tgt := 20) hx hb dJ7_fill_53178_7 (by decide) (fun c_7 => absurd c_7 (by decide)) (fun c_7 => ?_)
  refine lv_aload_n hx hb dJ7_fill_53178_10 rfl (lv_at hl 2 rfl) ?_
  refine lv_iload_n hx hb dJ7_fill_53178_11 rfl (lv_at hl 0 rfl) ?_
  refine lv_iload_n hx hb dJ7_fill_53178_12 rfl (lv_at hl 3 rfl) ?_
  refine va_iast (f := f_6) (n := 5) hx hb hK hP hD hS 0 0 rfl rfl (vp_in_iff.mpr (by decide)) dJ7_fill_53178_13 (fun H locs hP hD hS => ?_)
  have hP : va_P D vwCl [(q, .inl (y, 5, .inl (upd f_6 3 a2)))] H := hP
  have hD : va_D A [(q, .inl (y, 5, .inl (upd f_6 3 a2)))] := hD
  generalize upd f_6 3 a2 = f_8 at hP hD
  have hP : va_P D vwCl [(q, .inl (y, 5, .inl f_8))] H := hP
  have hD : va_D A [(q, .inl (y, 5, .inl f_8))] := hD
  refine lv_iinc (v := 4) (lv' := [(2, .int 4), (3, .int 5), (0, .ref q), (1, .int a2)]) hx hb dJ7_fill_53178_14 hl (k := 0) rfl (by decide) (by decide) rfl (fun ls hl => ?_)
  refine lv_goto (tgt := 5) hx hb dJ7_fill_53178_17 (by decide) ?_
  refine lv_iload_n hx hb dJ7_fill_53178_5 rfl (lv_at hl 0 rfl) ?_
  refine lv_iload_n hx hb dJ7_fill_53178_6 rfl (lv_at hl 1 rfl) ?_
  refine lv_icmp_ge (tgt := 20) hx hb dJ7_fill_53178_7 (by decide) (fun c_9 => absurd c_9 (by decide)) (fun c_9 => ?_)
  refine lv_aload_n hx hb dJ7_fill_53178_10 rfl (lv_at hl 2 rfl) ?_
  refine lv_iload_n hx hb dJ7_fill_53178_11 rfl (lv_at hl 0 rfl) ?_
  refine lv_iload_n hx hb dJ7_fill_53178_12 rfl (lv_at hl 3 rfl) ?_
  refine va_iast (f := f_8) (n := 5) hx hb hK hP hD hS 0 0 rfl rfl (vp_in_iff.mpr (by decide)) dJ7_fill_53178_13 (fun H locs hP hD hS => ?_)
  have hP : va_P D vwCl [(q, .inl (y, 5, .inl (upd f_8 4 a2)))] H := hP
  have hD : va_D A [(q, .inl (y, 5, .inl (upd f_8 4 a2)))] := hD
  generalize upd f_8 4 a2 = f_10 at hP hD
  have hP : va_P D vwCl [(q, .inl (y, 5, .inl f_10))] H := hP
  have hD : va_D A [(q, .inl (y, 5, .inl f_10))] := hD
  refine lv_iinc (v := 5) (lv' := [(2, .int 5), (3, .int 5), (0, .ref q), (1, .int a2)]) hx hb dJ7_fill_53178_14 hl (k := 0) rfl (by decide) (by decide) rfl (fun ls hl => ?_)
  refine lv_goto (tgt := 5) hx hb dJ7_fill_53178_17 (by decide) ?_
  refine lv_iload_n hx hb dJ7_fill_53178_5 rfl (lv_at hl 0 rfl) ?_
  refine lv_iload_n hx hb dJ7_fill_53178_6 rfl (lv_at hl 1 rfl) ?_
  refine lv_icmp_ge (tgt := 20) hx hb dJ7_fill_53178_7 (by decide) (fun c_11 => ?_) (fun c_11 => absurd (by decide) c_11)
  have hP9 := hP.sub (ws' := [(q, .inl (y, 5, .inl f_10))]) [0] rfl
  have hD9 := hD.sub (ws' := [(q, .inl (y, 5, .inl f_10))]) [0] (by decide) rfl
  have hK9 := hK.sub (tys' := [(y, .int)]) [0] rfl
  refine W.widen (k := 0) (n := 0) (by omega) (by omega) ?_
  exact W.vret hx hb hr (fun t ht hW => ⟨⟨(), rfl, trivial, f_10, by rw [ht]; exact hP9, va_K.moved hW.alike hK9, hD9⟩, hS.F ht⟩) hS.2.2 dJ7_fill_53178_20
set_option maxHeartbeats 4000000 in
set_option maxRecDepth 100000 in
theorem q_X5_copyFrom (l : Launch) (D : va_G) (h0 s1 s2 o o1 o2 : Nat) (y1 y2 z1 z2 : ClassId) (f1 f2 g1 g2 : Nat → Int32) (sz : Nat)  : Met l yX5_copyFrom wsX5_copyFrom ({ frames := 1, cells := 0, slots := 0, locals := 40 }) (va_Pc [.ref h0, .ref o] (fun U => U.heap.size = sz ∧ va_P D vwCl [(h0, .inr (5, [.ref s1, .ref s2])), (s1, .inl (y1, 4, .inl f1)), (s2, .inl (y2, 4, .inl f2)), (o, .inr (5, [.ref o1, .ref o2])), (o1, .inl (z1, 4, .inl g1)), (o2, .inl (z2, 4, .inl g2))] U.heap ∧ va_K D vwCl [(y1, .int), (y2, .int), (z1, .int), (z2, .int)] U ∧ va_D (fun _ => True) [(h0, .inr (5, [.ref s1, .ref s2])), (s1, .inl (y1, 4, .inl f1)), (s2, .inl (y2, 4, .inl f2)), (o, .inr (5, [.ref o1, .ref o2])), (o1, .inl (z1, 4, .inl g1)), (o2, .inl (z2, 4, .inl g2))])) (va_Qv (fun _ : Unit => True) (fun (_ : Unit) (t : State) => ∃ (k1 k2 : Nat → Int32), va_P D vwCl [(h0, .inr (5, [.ref s1, .ref s2])), (s1, .inl (y1, 4, .inl k1)), (s2, .inl (y2, 4, .inl k2))] t.heap ∧ va_K D vwCl [(y1, .int), (y2, .int)] t ∧ va_D (va_A [(h0, .inr (5, [.ref s1, .ref s2])), (s1, .inl (y1, 4, .inl f1)), (s2, .inl (y2, 4, .inl f2)), (o, .inr (5, [.ref o1, .ref o2])), (o1, .inl (z1, 4, .inl g1)), (o2, .inl (z2, 4, .inl g2))] sz) [(h0, .inr (5, [.ref s1, .ref s2])), (s1, .inl (y1, 4, .inl k1)), (s2, .inl (y2, 4, .inl k2))]) (va_A [(h0, .inr (5, [.ref s1, .ref s2])), (s1, .inl (y1, 4, .inl f1)), (s2, .inl (y2, 4, .inl f2)), (o, .inr (5, [.ref o1, .ref o2])), (o1, .inl (z1, 4, .inl g1)), (o2, .inl (z2, 4, .inl g2))] sz)) 0 0 (va_A [(h0, .inr (5, [.ref s1, .ref s2])), (s1, .inl (y1, 4, .inl f1)), (s2, .inl (y2, 4, .inl f2)), (o, .inr (5, [.ref o1, .ref o2])), (o1, .inl (z1, 4, .inl g1)), (o2, .inl (z2, 4, .inl g2))] sz) := by
  refine Met.ofW (cc := cX5_copyFrom) (maxL := 2) (ret := none) (by decide) rfl ?_
  intro p e s m args below meth c s₁ B hml hv
  obtain ⟨rfl, hsz, hP, hK, hD0⟩ := hv
  have hx := B.exec
  have hb := B.bytes
  have hr := B.returns
  have hts := atoms_spec (ws := wsX5_copyFrom) B.pre
  have hown : s.vm.findClass RX5 = some m.cls := findClass_of_methodNamed B.named
  have hlocks := B.notSynchronized
  subst hsz
  have hD := hD0.self (sz := s.heap.size)
  generalize hAe : va_A [(h0, .inr (5, [.ref s1, .ref s2])), (s1, .inl (y1, 4, .inl f1)), (s2, .inl (y2, 4, .inl f2)), (o, .inr (5, [.ref o1, .ref o2])), (o1, .inl (z1, 4, .inl g1)), (o2, .inl (z2, 4, .inl g2))] s.heap.size = A at hD ⊢
  have hA : ∀ q : Nat, s.heap.size ≤ q → A q := fun q h => by rw [← hAe]; exact Or.inr h
  have hS : va_S A s.heap s.heap [] := va_S.rf
  have hP : va_P D vwCl [(h0, .inr (5, [.ref s1, .ref s2])), (s1, .inl (y1, 4, .inl f1)), (s2, .inl (y2, 4, .inl f2)), (o, .inr (5, [.ref o1, .ref o2])), (o1, .inl (z1, 4, .inl g1)), (o2, .inl (z2, 4, .inl g2))] s.heap := hP
  have hin5 : ∀ w ∈ u_ws RX5 TX5 2, w ∈ wsX5_copyFrom := (fun _ h9 => List.mem_cons_of_mem _ ((List.mem_append_right _ h9)))
  have hl := lv_entry ([.ref h0, .ref o]) (n := 2) (Nat.le_of_ble_eq_true rfl)
  rw [lg_entry_eq]
  generalize (lg_sl ([.ref h0, .ref o]) ++ List.replicate (2 - (lg_sl ([.ref h0, .ref o])).length) Slot.unset).toArray = ls at hl ⊢
  have hl : lv_has ls 2 [(0, .ref h0), (1, .ref o)] := hl
  refine lv_aload_n hx hb dX5_copyFrom_0 rfl (lv_at hl 1 rfl) ?_
  refine va_get (D := D) (ci := 5) (v := .ref o1) (C := RX5) (T := TX5) (N := 2) hx hb hts hin5 hown hK hP 3 rfl rfl 0 (by decide) (hts (.fieldLink RX5 9 "HoneyHouse$Steps" "waters" "[I") (List.mem_of_getElem? (i := 1) rfl)) (fun _ h9 => h9) rfl dX5_copyFrom_1 ?_
  refine lv_iconst (v := 0) hx hb dX5_copyFrom_4 (by decide) ?_
  refine lv_aload_n hx hb dX5_copyFrom_5 rfl (lv_at hl 0 rfl) ?_
  refine va_get (D := D) (ci := 5) (v := .ref s1) (C := RX5) (T := TX5) (N := 2) hx hb hts hin5 hown hK hP 0 rfl rfl 0 (by decide) (hts (.fieldLink RX5 9 "HoneyHouse$Steps" "waters" "[I") (List.mem_of_getElem? (i := 1) rfl)) (fun _ h9 => h9) rfl dX5_copyFrom_6 ?_
  refine lv_iconst (v := 0) hx hb dX5_copyFrom_9 (by decide) ?_
  refine lv_iconst (v := 4) hx hb dX5_copyFrom_10 (by decide) ?_
  refine va_copyi (f := g1) (g := f1) (n0 := 4) (n1 := 4) (c0 := z1) (c1 := y1) (ty := .int) hx hb (by rw [hml]; exact hl.1.symm) hown (hts (.methodLink RX5 18 arraycopyName) (List.mem_of_getElem? (i := 2) rfl)) (hts (.native arraycopyName) (List.mem_of_getElem? (i := 3) rfl)) (hts (.static arraycopyName) (List.mem_of_getElem? (i := 4) rfl)) (hts (.initialized "java/lang/System") (List.mem_of_getElem? (i := 5) rfl)) hK hP hD hS 4 1 2 0 rfl rfl rfl rfl rfl (by decide) (by decide) (by decide) (by decide) (by decide) (fun _ _ => rfl) (Nat.le_of_ble_eq_true rfl) (Nat.le_of_ble_eq_true rfl) dX5_copyFrom_11 (fun H locs hP hD hS => ?_)
  have hP : va_P D vwCl [(h0, .inr (5, [.ref s1, .ref s2])), (s1, .inl (y1, 4, .inl (va_cpy g1 f1 0 0 4))), (s2, .inl (y2, 4, .inl f2)), (o, .inr (5, [.ref o1, .ref o2])), (o1, .inl (z1, 4, .inl g1)), (o2, .inl (z2, 4, .inl g2))] H := hP
  have hD : va_D A [(h0, .inr (5, [.ref s1, .ref s2])), (s1, .inl (y1, 4, .inl (va_cpy g1 f1 0 0 4))), (s2, .inl (y2, 4, .inl f2)), (o, .inr (5, [.ref o1, .ref o2])), (o1, .inl (z1, 4, .inl g1)), (o2, .inl (z2, 4, .inl g2))] := hD
  generalize va_cpy g1 f1 0 0 4 = f_1 at hP hD
  have hP : va_P D vwCl [(h0, .inr (5, [.ref s1, .ref s2])), (s1, .inl (y1, 4, .inl f_1)), (s2, .inl (y2, 4, .inl f2)), (o, .inr (5, [.ref o1, .ref o2])), (o1, .inl (z1, 4, .inl g1)), (o2, .inl (z2, 4, .inl g2))] H := hP
  have hD : va_D A [(h0, .inr (5, [.ref s1, .ref s2])), (s1, .inl (y1, 4, .inl f_1)), (s2, .inl (y2, 4, .inl f2)), (o, .inr (5, [.ref o1, .ref o2])), (o1, .inl (z1, 4, .inl g1)), (o2, .inl (z2, 4, .inl g2))] := hD
  refine lv_aload_n hx hb dX5_copyFrom_14 rfl (lv_at hl 1 rfl) ?_
  refine va_get (D := D) (ci := 5) (v := .ref o2) (C := RX5) (T := TX5) (N := 2) hx hb hts hin5 hown hK hP 3 rfl rfl 1 (by decide) (hts (.fieldLink RX5 15 "HoneyHouse$Steps" "prices" "[I") (List.mem_of_getElem? (i := 6) rfl)) (fun _ h9 => h9) rfl dX5_copyFrom_15 ?_
  refine lv_iconst (v := 0) hx hb dX5_copyFrom_18 (by decide) ?_
  refine lv_aload_n hx hb dX5_copyFrom_19 rfl (lv_at hl 0 rfl) ?_
  refine va_get (D := D) (ci := 5) (v := .ref s2) (C := RX5) (T := TX5) (N := 2) hx hb hts hin5 hown hK hP 0 rfl rfl 1 (by decide) (hts (.fieldLink RX5 15 "HoneyHouse$Steps" "prices" "[I") (List.mem_of_getElem? (i := 6) rfl)) (fun _ h9 => h9) rfl dX5_copyFrom_20 ?_
  refine lv_iconst (v := 0) hx hb dX5_copyFrom_23 (by decide) ?_
  refine lv_iconst (v := 4) hx hb dX5_copyFrom_24 (by decide) ?_
  refine va_copyi (f := g2) (g := f2) (n0 := 4) (n1 := 4) (c0 := z2) (c1 := y2) (ty := .int) hx hb (by rw [hml]; exact hl.1.symm) hown (hts (.methodLink RX5 18 arraycopyName) (List.mem_of_getElem? (i := 2) rfl)) (hts (.native arraycopyName) (List.mem_of_getElem? (i := 3) rfl)) (hts (.static arraycopyName) (List.mem_of_getElem? (i := 4) rfl)) (hts (.initialized "java/lang/System") (List.mem_of_getElem? (i := 5) rfl)) hK hP hD hS 5 2 3 1 rfl rfl rfl rfl rfl (by decide) (by decide) (by decide) (by decide) (by decide) (fun _ _ => rfl) (Nat.le_of_ble_eq_true rfl) (Nat.le_of_ble_eq_true rfl) dX5_copyFrom_25 (fun H locs hP hD hS => ?_)
  have hP : va_P D vwCl [(h0, .inr (5, [.ref s1, .ref s2])), (s1, .inl (y1, 4, .inl f_1)), (s2, .inl (y2, 4, .inl (va_cpy g2 f2 0 0 4))), (o, .inr (5, [.ref o1, .ref o2])), (o1, .inl (z1, 4, .inl g1)), (o2, .inl (z2, 4, .inl g2))] H := hP
  have hD : va_D A [(h0, .inr (5, [.ref s1, .ref s2])), (s1, .inl (y1, 4, .inl f_1)), (s2, .inl (y2, 4, .inl (va_cpy g2 f2 0 0 4))), (o, .inr (5, [.ref o1, .ref o2])), (o1, .inl (z1, 4, .inl g1)), (o2, .inl (z2, 4, .inl g2))] := hD
  generalize va_cpy g2 f2 0 0 4 = f_2 at hP hD
  have hP : va_P D vwCl [(h0, .inr (5, [.ref s1, .ref s2])), (s1, .inl (y1, 4, .inl f_1)), (s2, .inl (y2, 4, .inl f_2)), (o, .inr (5, [.ref o1, .ref o2])), (o1, .inl (z1, 4, .inl g1)), (o2, .inl (z2, 4, .inl g2))] H := hP
  have hD : va_D A [(h0, .inr (5, [.ref s1, .ref s2])), (s1, .inl (y1, 4, .inl f_1)), (s2, .inl (y2, 4, .inl f_2)), (o, .inr (5, [.ref o1, .ref o2])), (o1, .inl (z1, 4, .inl g1)), (o2, .inl (z2, 4, .inl g2))] := hD
  have hP9 := hP.sub (ws' := [(h0, .inr (5, [.ref s1, .ref s2])), (s1, .inl (y1, 4, .inl f_1)), (s2, .inl (y2, 4, .inl f_2))]) [0, 1, 2] rfl
  have hD9 := hD.sub (ws' := [(h0, .inr (5, [.ref s1, .ref s2])), (s1, .inl (y1, 4, .inl f_1)), (s2, .inl (y2, 4, .inl f_2))]) [0, 1, 2] (by decide) rfl
  have hK9 := hK.sub (tys' := [(y1, .int), (y2, .int)]) [0, 1] rfl
  refine W.widen (k := 0) (n := 0) (by omega) (by omega) ?_
  exact W.vret hx hb hr (fun t ht hW => ⟨⟨(), rfl, trivial, f_1, f_2, by rw [ht]; exact hP9, va_K.moved hW.alike hK9, hD9⟩, hS.F ht⟩) hS.2.2 dX5_copyFrom_28
set_option maxHeartbeats 4000000 in
set_option maxRecDepth 100000 in
theorem s_X5_payFor (l : Launch) (D : va_G) (ws : va_W) (tys : List (ClassId × FieldType)) (h0 k0 s1 k1 s2 k2 : Nat) (y1 y2 : ClassId) (t1 t2 : Nat) (f1 f2 : Nat → Int32) (fs : List Value) (a1 a2 : Int32) (e0 : ws[k0]? = some (h0, .inr (5, fs))) (g0 : fs[0]? = some (.ref s1)) (g1 : fs[1]? = some (.ref s2)) (e1 : ws[k1]? = some (s1, .inl (y1, 4, .inl f1))) (u1 : tys[t1]? = some (y1, .int)) (e2 : ws[k2]? = some (s2, .inl (y2, 4, .inl f2))) (u2 : tys[t2]? = some (y2, .int)) : Met l yX5_payFor wsX5_payFor ({ frames := 0, cells := 0, slots := 0, locals := 0 }) (va_Pc [.ref h0, .int a1, .int a2] (fun U => va_P D vwCl ws U.heap ∧ va_K D vwCl tys U)) (vp_Si (fun r => True)) 0 0 (fun _ => False) := by
  refine Met.ofW (cc := cX5_payFor) (maxL := 4) (ret := (some .int)) (by decide) rfl ?_
  intro p e s m args below meth c s₁ B hml hv
  obtain ⟨rfl, hP, hK⟩ := hv
  have hx := B.exec
  have hb := B.bytes
  have hr := B.returns
  have hts := atoms_spec (ws := wsX5_payFor) B.pre
  have hown : s.vm.findClass RX5 = some m.cls := findClass_of_methodNamed B.named
  have hlocks := B.notSynchronized
  have hin5 : ∀ w ∈ u_ws RX5 TX5 2, w ∈ wsX5_payFor := (fun _ h9 => List.mem_cons_of_mem _ ((List.mem_append_right _ h9)))
  have hl := lv_entry ([.ref h0, .int a1, .int a2]) (n := 4) (Nat.le_of_ble_eq_true rfl)
  rw [lg_entry_eq]
  generalize (lg_sl ([.ref h0, .int a1, .int a2]) ++ List.replicate (4 - (lg_sl ([.ref h0, .int a1, .int a2])).length) Slot.unset).toArray = ls at hl ⊢
  have hl : lv_has ls 4 [(0, .ref h0), (1, .int a1), (2, .int a2)] := hl
  refine lv_iconst (v := 0) hx hb dX5_payFor_0 (by decide) ?_
  refine lv_istore_n (lv' := [(3, .int 0), (0, .ref h0), (1, .int a1), (2, .int a2)]) hx hb dX5_payFor_1 rfl hl (by decide) rfl (fun ls hl => ?_)
  refine lv_iload_n hx hb dX5_payFor_2 rfl (lv_at hl 0 rfl) ?_
  refine lv_iconst (v := 4) hx hb dX5_payFor_3 (by decide) ?_
  refine lv_icmp_ge (tgt := 39) hx hb dX5_payFor_4 (by decide) (fun c_1 => absurd c_1 (by decide)) (fun c_1 => ?_)
  refine lv_iload_n hx hb dX5_payFor_7 rfl (lv_at hl 3 rfl) ?_
  refine lv_aload_n hx hb dX5_payFor_8 rfl (lv_at hl 1 rfl) ?_
  refine va_get (D := D) (ci := 5) (v := .ref s1) (C := RX5) (T := TX5) (N := 2) hx hb hts hin5 hown hK hP k0 e0 rfl 0 (by decide) (hts (.fieldLink RX5 9 "HoneyHouse$Steps" "waters" "[I") (List.mem_of_getElem? (i := 1) rfl)) (fun _ h9 => h9) g0 dX5_payFor_9 ?_
  refine lv_iload_n hx hb dX5_payFor_12 rfl (lv_at hl 0 rfl) ?_
  refine va_iald (f := f1) (n := 4) hx hb hK hP k1 t1 e1 u1 (vp_in_iff.mpr (by decide)) dX5_payFor_13 ?_
  refine lv_icmp_gt (tgt := 33) hx hb dX5_payFor_14 (by decide) (fun c_2 => ?_) (fun c_2 => ?_)
  · refine lv_iinc (v := 1) (lv' := [(3, .int 1), (0, .ref h0), (1, .int a1), (2, .int a2)]) hx hb dX5_payFor_33 hl (k := 0) rfl (by decide) (by decide) rfl (fun ls hl => ?_)
    refine lv_goto (tgt := 2) hx hb dX5_payFor_36 (by decide) ?_
    refine lv_iload_n hx hb dX5_payFor_2 rfl (lv_at hl 0 rfl) ?_
    refine lv_iconst (v := 4) hx hb dX5_payFor_3 (by decide) ?_
    refine lv_icmp_ge (tgt := 39) hx hb dX5_payFor_4 (by decide) (fun c_3 => absurd c_3 (by decide)) (fun c_3 => ?_)
    refine lv_iload_n hx hb dX5_payFor_7 rfl (lv_at hl 3 rfl) ?_
    refine lv_aload_n hx hb dX5_payFor_8 rfl (lv_at hl 1 rfl) ?_
    refine va_get (D := D) (ci := 5) (v := .ref s1) (C := RX5) (T := TX5) (N := 2) hx hb hts hin5 hown hK hP k0 e0 rfl 0 (by decide) (hts (.fieldLink RX5 9 "HoneyHouse$Steps" "waters" "[I") (List.mem_of_getElem? (i := 1) rfl)) (fun _ h9 => h9) g0 dX5_payFor_9 ?_
    refine lv_iload_n hx hb dX5_payFor_12 rfl (lv_at hl 0 rfl) ?_
    refine va_iald (f := f1) (n := 4) hx hb hK hP k1 t1 e1 u1 (vp_in_iff.mpr (by decide)) dX5_payFor_13 ?_
    refine lv_icmp_gt (tgt := 33) hx hb dX5_payFor_14 (by decide) (fun c_4 => ?_) (fun c_4 => ?_)
    · refine lv_iinc (v := 2) (lv' := [(3, .int 2), (0, .ref h0), (1, .int a1), (2, .int a2)]) hx hb dX5_payFor_33 hl (k := 0) rfl (by decide) (by decide) rfl (fun ls hl => ?_)
      refine lv_goto (tgt := 2) hx hb dX5_payFor_36 (by decide) ?_
      refine lv_iload_n hx hb dX5_payFor_2 rfl (lv_at hl 0 rfl) ?_
      refine lv_iconst (v := 4) hx hb dX5_payFor_3 (by decide) ?_
      refine lv_icmp_ge (tgt := 39) hx hb dX5_payFor_4 (by decide) (fun c_5 => absurd c_5 (by decide)) (fun c_5 => ?_)
      refine lv_iload_n hx hb dX5_payFor_7 rfl (lv_at hl 3 rfl) ?_
      refine lv_aload_n hx hb dX5_payFor_8 rfl (lv_at hl 1 rfl) ?_
      refine va_get (D := D) (ci := 5) (v := .ref s1) (C := RX5) (T := TX5) (N := 2) hx hb hts hin5 hown hK hP k0 e0 rfl 0 (by decide) (hts (.fieldLink RX5 9 "HoneyHouse$Steps" "waters" "[I") (List.mem_of_getElem? (i := 1) rfl)) (fun _ h9 => h9) g0 dX5_payFor_9 ?_
      refine lv_iload_n hx hb dX5_payFor_12 rfl (lv_at hl 0 rfl) ?_
      refine va_iald (f := f1) (n := 4) hx hb hK hP k1 t1 e1 u1 (vp_in_iff.mpr (by decide)) dX5_payFor_13 ?_
      refine lv_icmp_gt (tgt := 33) hx hb dX5_payFor_14 (by decide) (fun c_6 => ?_) (fun c_6 => ?_)
      · refine lv_iinc (v := 3) (lv' := [(3, .int 3), (0, .ref h0), (1, .int a1), (2, .int a2)]) hx hb dX5_payFor_33 hl (k := 0) rfl (by decide) (by decide) rfl (fun ls hl => ?_)
        refine lv_goto (tgt := 2) hx hb dX5_payFor_36 (by decide) ?_
        refine lv_iload_n hx hb dX5_payFor_2 rfl (lv_at hl 0 rfl) ?_
        refine lv_iconst (v := 4) hx hb dX5_payFor_3 (by decide) ?_
        refine lv_icmp_ge (tgt := 39) hx hb dX5_payFor_4 (by decide) (fun c_7 => absurd c_7 (by decide)) (fun c_7 => ?_)
        refine lv_iload_n hx hb dX5_payFor_7 rfl (lv_at hl 3 rfl) ?_
        refine lv_aload_n hx hb dX5_payFor_8 rfl (lv_at hl 1 rfl) ?_
        refine va_get (D := D) (ci := 5) (v := .ref s1) (C := RX5) (T := TX5) (N := 2) hx hb hts hin5 hown hK hP k0 e0 rfl 0 (by decide) (hts (.fieldLink RX5 9 "HoneyHouse$Steps" "waters" "[I") (List.mem_of_getElem? (i := 1) rfl)) (fun _ h9 => h9) g0 dX5_payFor_9 ?_
        refine lv_iload_n hx hb dX5_payFor_12 rfl (lv_at hl 0 rfl) ?_
        refine va_iald (f := f1) (n := 4) hx hb hK hP k1 t1 e1 u1 (vp_in_iff.mpr (by decide)) dX5_payFor_13 ?_
        refine lv_icmp_gt (tgt := 33) hx hb dX5_payFor_14 (by decide) (fun c_8 => ?_) (fun c_8 => ?_)
        · refine lv_iinc (v := 4) (lv' := [(3, .int 4), (0, .ref h0), (1, .int a1), (2, .int a2)]) hx hb dX5_payFor_33 hl (k := 0) rfl (by decide) (by decide) rfl (fun ls hl => ?_)
          refine lv_goto (tgt := 2) hx hb dX5_payFor_36 (by decide) ?_
          refine lv_iload_n hx hb dX5_payFor_2 rfl (lv_at hl 0 rfl) ?_
          refine lv_iconst (v := 4) hx hb dX5_payFor_3 (by decide) ?_
          refine lv_icmp_ge (tgt := 39) hx hb dX5_payFor_4 (by decide) (fun c_9 => ?_) (fun c_9 => absurd (by decide) c_9)
          refine lv_iconst (v := 0) hx hb dX5_payFor_39 (by decide) ?_
          exact W.iret (v := 0) hx hb hr (fun t ht hW => ⟨0, rfl, trivial, ht⟩) (fun _ h9 => by cases h9) dX5_payFor_40
        refine lv_iload_n hx hb dX5_payFor_17 rfl (lv_at hl 2 rfl) ?_
        refine lv_i2l hx hb dX5_payFor_18 rfl ?_
        refine lv_aload_n hx hb dX5_payFor_19 rfl (lv_at hl 1 rfl) ?_
        refine va_get (D := D) (ci := 5) (v := .ref s2) (C := RX5) (T := TX5) (N := 2) hx hb hts hin5 hown hK hP k0 e0 rfl 1 (by decide) (hts (.fieldLink RX5 15 "HoneyHouse$Steps" "prices" "[I") (List.mem_of_getElem? (i := 2) rfl)) (fun _ h9 => h9) g1 dX5_payFor_20 ?_
        refine lv_iload_n hx hb dX5_payFor_23 rfl (lv_at hl 0 rfl) ?_
        refine va_iald (f := f2) (n := 4) hx hb hK hP k2 t2 e2 u2 (vp_in_iff.mpr (by decide)) dX5_payFor_24 ?_
        refine lv_i2l hx hb dX5_payFor_25 rfl ?_
        refine lv_lmul hx hb dX5_payFor_26 ?_
        refine lv_ldc2 hx hb hown (hts (.constantLong RX5 24 (1000)) (List.mem_of_getElem? (i := 3) rfl)) dX5_payFor_27 ?_
        refine lv_ldiv hx hb dX5_payFor_30 (by decide) ?_
        refine lv_l2i hx hb dX5_payFor_31 rfl ?_
        exact W.iret (v := ((a1.toInt64 * ((f2 (3 : Int32).toNatClampNeg).toInt64)) / 1000).toInt32) hx hb hr (fun t ht hW => ⟨((a1.toInt64 * ((f2 (3 : Int32).toNatClampNeg).toInt64)) / 1000).toInt32, rfl, trivial, ht⟩) (fun _ h9 => by cases h9) dX5_payFor_32
      refine lv_iload_n hx hb dX5_payFor_17 rfl (lv_at hl 2 rfl) ?_
      refine lv_i2l hx hb dX5_payFor_18 rfl ?_
      refine lv_aload_n hx hb dX5_payFor_19 rfl (lv_at hl 1 rfl) ?_
      refine va_get (D := D) (ci := 5) (v := .ref s2) (C := RX5) (T := TX5) (N := 2) hx hb hts hin5 hown hK hP k0 e0 rfl 1 (by decide) (hts (.fieldLink RX5 15 "HoneyHouse$Steps" "prices" "[I") (List.mem_of_getElem? (i := 2) rfl)) (fun _ h9 => h9) g1 dX5_payFor_20 ?_
      refine lv_iload_n hx hb dX5_payFor_23 rfl (lv_at hl 0 rfl) ?_
      refine va_iald (f := f2) (n := 4) hx hb hK hP k2 t2 e2 u2 (vp_in_iff.mpr (by decide)) dX5_payFor_24 ?_
      refine lv_i2l hx hb dX5_payFor_25 rfl ?_
      refine lv_lmul hx hb dX5_payFor_26 ?_
      refine lv_ldc2 hx hb hown (hts (.constantLong RX5 24 (1000)) (List.mem_of_getElem? (i := 3) rfl)) dX5_payFor_27 ?_
      refine lv_ldiv hx hb dX5_payFor_30 (by decide) ?_
      refine lv_l2i hx hb dX5_payFor_31 rfl ?_
      exact W.iret (v := ((a1.toInt64 * ((f2 (2 : Int32).toNatClampNeg).toInt64)) / 1000).toInt32) hx hb hr (fun t ht hW => ⟨((a1.toInt64 * ((f2 (2 : Int32).toNatClampNeg).toInt64)) / 1000).toInt32, rfl, trivial, ht⟩) (fun _ h9 => by cases h9) dX5_payFor_32
    refine lv_iload_n hx hb dX5_payFor_17 rfl (lv_at hl 2 rfl) ?_
    refine lv_i2l hx hb dX5_payFor_18 rfl ?_
    refine lv_aload_n hx hb dX5_payFor_19 rfl (lv_at hl 1 rfl) ?_
    refine va_get (D := D) (ci := 5) (v := .ref s2) (C := RX5) (T := TX5) (N := 2) hx hb hts hin5 hown hK hP k0 e0 rfl 1 (by decide) (hts (.fieldLink RX5 15 "HoneyHouse$Steps" "prices" "[I") (List.mem_of_getElem? (i := 2) rfl)) (fun _ h9 => h9) g1 dX5_payFor_20 ?_
    refine lv_iload_n hx hb dX5_payFor_23 rfl (lv_at hl 0 rfl) ?_
    refine va_iald (f := f2) (n := 4) hx hb hK hP k2 t2 e2 u2 (vp_in_iff.mpr (by decide)) dX5_payFor_24 ?_
    refine lv_i2l hx hb dX5_payFor_25 rfl ?_
    refine lv_lmul hx hb dX5_payFor_26 ?_
    refine lv_ldc2 hx hb hown (hts (.constantLong RX5 24 (1000)) (List.mem_of_getElem? (i := 3) rfl)) dX5_payFor_27 ?_
    refine lv_ldiv hx hb dX5_payFor_30 (by decide) ?_
    refine lv_l2i hx hb dX5_payFor_31 rfl ?_
    exact W.iret (v := ((a1.toInt64 * ((f2 (1 : Int32).toNatClampNeg).toInt64)) / 1000).toInt32) hx hb hr (fun t ht hW => ⟨((a1.toInt64 * ((f2 (1 : Int32).toNatClampNeg).toInt64)) / 1000).toInt32, rfl, trivial, ht⟩) (fun _ h9 => by cases h9) dX5_payFor_32
  refine lv_iload_n hx hb dX5_payFor_17 rfl (lv_at hl 2 rfl) ?_
  refine lv_i2l hx hb dX5_payFor_18 rfl ?_
  refine lv_aload_n hx hb dX5_payFor_19 rfl (lv_at hl 1 rfl) ?_
  refine va_get (D := D) (ci := 5) (v := .ref s2) (C := RX5) (T := TX5) (N := 2) hx hb hts hin5 hown hK hP k0 e0 rfl 1 (by decide) (hts (.fieldLink RX5 15 "HoneyHouse$Steps" "prices" "[I") (List.mem_of_getElem? (i := 2) rfl)) (fun _ h9 => h9) g1 dX5_payFor_20 ?_
  refine lv_iload_n hx hb dX5_payFor_23 rfl (lv_at hl 0 rfl) ?_
  refine va_iald (f := f2) (n := 4) hx hb hK hP k2 t2 e2 u2 (vp_in_iff.mpr (by decide)) dX5_payFor_24 ?_
  refine lv_i2l hx hb dX5_payFor_25 rfl ?_
  refine lv_lmul hx hb dX5_payFor_26 ?_
  refine lv_ldc2 hx hb hown (hts (.constantLong RX5 24 (1000)) (List.mem_of_getElem? (i := 3) rfl)) dX5_payFor_27 ?_
  refine lv_ldiv hx hb dX5_payFor_30 (by decide) ?_
  refine lv_l2i hx hb dX5_payFor_31 rfl ?_
  exact W.iret (v := ((a1.toInt64 * ((f2 (0 : Int32).toNatClampNeg).toInt64)) / 1000).toInt32) hx hb hr (fun t ht hW => ⟨((a1.toInt64 * ((f2 (0 : Int32).toNatClampNeg).toInt64)) / 1000).toInt32, rfl, trivial, ht⟩) (fun _ h9 => by cases h9) dX5_payFor_32
set_option maxHeartbeats 4000000 in
set_option maxRecDepth 100000 in
theorem q_X2_init (l : Launch) (D : va_G) (h0 o o1 o2 : Nat) (z1 z2 : ClassId) (g1 g2 : Nat → Int32) (a1 a2 a3 a4 a5 : Int32) (sz : Nat)  : Met l yX2_init wsX2_init ({ frames := 2, cells := 5, slots := 20, locals := 61 }) (va_Pc [.ref h0, .int a1, .int a2, .int a3, .int a4, .int a5, .ref o] (fun U => U.heap.size = sz ∧ va_P D vwCl [(h0, .inr (2, [.int 0, .int 0, .int 0, .int 0, .null, .null, .null, .int 0, .int 0, .int 0])), (o, .inr (5, [.ref o1, .ref o2])), (o1, .inl (z1, 4, .inl g1)), (o2, .inl (z2, 4, .inl g2))] U.heap ∧ va_K D vwCl [(z1, .int), (z2, .int)] U ∧ va_D (fun _ => True) [(h0, .inr (2, [.int 0, .int 0, .int 0, .int 0, .null, .null, .null, .int 0, .int 0, .int 0])), (o, .inr (5, [.ref o1, .ref o2])), (o1, .inl (z1, 4, .inl g1)), (o2, .inl (z2, 4, .inl g2))] ∧ va_Nw (.methodLinkNest RX2 20 yX5_init RX8) U)) (va_Qv (fun _ : Unit => True) (fun (_ : Unit) (t : State) => ∃ (vs : List Value), va_P D vwCl [(h0, .inr (2, vs))] t.heap ∧ va_K D vwCl [] t ∧ va_D (va_A [(h0, .inr (2, [.int 0, .int 0, .int 0, .int 0, .null, .null, .null, .int 0, .int 0, .int 0])), (o, .inr (5, [.ref o1, .ref o2])), (o1, .inl (z1, 4, .inl g1)), (o2, .inl (z2, 4, .inl g2))] sz) [(h0, .inr (2, vs))]) (va_A [(h0, .inr (2, [.int 0, .int 0, .int 0, .int 0, .null, .null, .null, .int 0, .int 0, .int 0])), (o, .inr (5, [.ref o1, .ref o2])), (o1, .inl (z1, 4, .inl g1)), (o2, .inl (z2, 4, .inl g2))] sz)) 5 20 (va_A [(h0, .inr (2, [.int 0, .int 0, .int 0, .int 0, .null, .null, .null, .int 0, .int 0, .int 0])), (o, .inr (5, [.ref o1, .ref o2])), (o1, .inl (z1, 4, .inl g1)), (o2, .inl (z2, 4, .inl g2))] sz) := by
  refine Met.ofW (cc := cX2_init) (maxL := 7) (ret := none) (by decide) rfl ?_
  intro p e s m args below meth c s₁ B hml hv
  obtain ⟨rfl, hsz, hP, hK, hD0, hn20⟩ := hv
  have hx := B.exec
  have hb := B.bytes
  have hr := B.returns
  have hts := atoms_spec (ws := wsX2_init) B.pre
  have hown : s.vm.findClass RX2 = some m.cls := findClass_of_methodNamed B.named
  have hlocks := B.notSynchronized
  have hin : meth.name = "<init>" := (name_of_methodNamed B.named B.method).1
  subst hsz
  have hD := hD0.self (sz := s.heap.size)
  generalize hAe : va_A [(h0, .inr (2, [.int 0, .int 0, .int 0, .int 0, .null, .null, .null, .int 0, .int 0, .int 0])), (o, .inr (5, [.ref o1, .ref o2])), (o1, .inl (z1, 4, .inl g1)), (o2, .inl (z2, 4, .inl g2))] s.heap.size = A at hD ⊢
  have hA : ∀ q : Nat, s.heap.size ≤ q → A q := fun q h => by rw [← hAe]; exact Or.inr h
  have hS : va_S A s.heap s.heap [] := va_S.rf
  have hP : va_P D vwCl [(h0, .inr (2, [.int 0, .int 0, .int 0, .int 0, .null, .null, .null, .int 0, .int 0, .int 0])), (o, .inr (5, [.ref o1, .ref o2])), (o1, .inl (z1, 4, .inl g1)), (o2, .inl (z2, 4, .inl g2))] s.heap := hP
  have hin2 : ∀ w ∈ u_ws RX2 TX2 10, w ∈ wsX2_init := (fun _ h9 => List.mem_cons_of_mem _ (List.mem_append_left _ ((List.mem_append_right _ h9))))
  have hin5 : ∀ w ∈ u_ws RX5 TX5 2, w ∈ wsX2_init := (fun _ h9 => List.mem_cons_of_mem _ ((List.mem_append_right _ h9)))
  have hl := lv_entry ([.ref h0, .int a1, .int a2, .int a3, .int a4, .int a5, .ref o]) (n := 7) (Nat.le_of_ble_eq_true rfl)
  rw [lg_entry_eq]
  generalize (lg_sl ([.ref h0, .int a1, .int a2, .int a3, .int a4, .int a5, .ref o]) ++ List.replicate (7 - (lg_sl ([.ref h0, .int a1, .int a2, .int a3, .int a4, .int a5, .ref o])).length) Slot.unset).toArray = ls at hl ⊢
  have hl : lv_has ls 7 [(0, .ref h0), (1, .int a1), (2, .int a2), (3, .int a3), (4, .int a4), (5, .int a5), (6, .ref o)] := hl
  refine lv_aload_n hx hb dX2_init_0 rfl (lv_at hl 0 rfl) ?_
  refine W.objInit hx hb hown (hts (.methodLink RX2 3 objectInit) (List.mem_of_getElem? (i := 1) rfl)) (hts (.instanceMethod objectInit) (List.mem_of_getElem? (i := 2) rfl)) (hts (.code objectInit ⟨#[0xb1]⟩ 1 none) (List.mem_of_getElem? (i := 3) rfl)) rfl (by rw [hml]; exact hl.1) rfl dX2_init_1 (Nat.le_of_ble_eq_true rfl) (Nat.le_of_ble_eq_true rfl) ?_
  refine W.eq (g2 := F0 m 4 ls []) rfl ?_
  refine lv_aload_n hx hb dX2_init_4 rfl (lv_at hl 0 rfl) ?_
  refine lv_iconst (v := 5) hx hb dX2_init_5 (by decide) ?_
  refine va_newa (atype := .int) (ty := .int) (a0 := (5, .inl (fun _ => 0))) (N' := 5) hx hb (hts (.arrayClass .int) (List.mem_of_getElem? (i := 4) rfl)) rfl hK hP hD hS hA (fun _ => rfl) (by decide) (by decide) (by decide) (Nat.le_of_ble_eq_true rfl) (Nat.le_of_ble_eq_true rfl) dX2_init_6 (fun q_1 y_2 H hK hP hD hS => ?_)
  have hK : va_K D vwCl [(z1, .int), (z2, .int), (y_2, .int)] s := hK
  have hP : va_P D vwCl [(h0, .inr (2, [.int 0, .int 0, .int 0, .int 0, .null, .null, .null, .int 0, .int 0, .int 0])), (o, .inr (5, [.ref o1, .ref o2])), (o1, .inl (z1, 4, .inl g1)), (o2, .inl (z2, 4, .inl g2)), (q_1, .inl (y_2, 5, .inl (fun _ => 0)))] H := hP
  have hD : va_D A [(h0, .inr (2, [.int 0, .int 0, .int 0, .int 0, .null, .null, .null, .int 0, .int 0, .int 0])), (o, .inr (5, [.ref o1, .ref o2])), (o1, .inl (z1, 4, .inl g1)), (o2, .inl (z2, 4, .inl g2)), (q_1, .inl (y_2, 5, .inl (fun _ => 0)))] := hD
  refine W.widen (k := 1) (n := 5) (by omega) (by omega) ?_
  refine va_putF (D := D) (ci := 2) (v := .ref q_1) (ty := .array .int) (C := RX2) (T := TX2) (N := 10) hx hb hts hin2 tyX2 tyX2_ok nmX2 hown hK hP hD hS 0 rfl rfl 4 (by decide) (hts (.fieldLink RX2 9 "HoneyHouse$Lot" "low" "[I") (List.mem_of_getElem? (i := 5) rfl)) (fun _ h9 => h9) rfl hin rfl (tyX2_ok 4 (by decide)) rfl rfl (Nat.le_of_ble_eq_true rfl) dX2_init_8 (fun H locs hP hD hS => ?_)
  have hP : va_P D vwCl [(h0, .inr (2, [.int 0, .int 0, .int 0, .int 0, .ref q_1, .null, .null, .int 0, .int 0, .int 0])), (o, .inr (5, [.ref o1, .ref o2])), (o1, .inl (z1, 4, .inl g1)), (o2, .inl (z2, 4, .inl g2)), (q_1, .inl (y_2, 5, .inl (fun _ => 0)))] H := hP
  have hD : va_D A [(h0, .inr (2, [.int 0, .int 0, .int 0, .int 0, .ref q_1, .null, .null, .int 0, .int 0, .int 0])), (o, .inr (5, [.ref o1, .ref o2])), (o1, .inl (z1, 4, .inl g1)), (o2, .inl (z2, 4, .inl g2)), (q_1, .inl (y_2, 5, .inl (fun _ => 0)))] := hD
  refine lv_aload_n hx hb dX2_init_11 rfl (lv_at hl 0 rfl) ?_
  refine lv_iconst (v := 5) hx hb dX2_init_12 (by decide) ?_
  refine va_newa (atype := .int) (ty := .int) (a0 := (5, .inl (fun _ => 0))) (N' := 5) hx hb (hts (.arrayClass .int) (List.mem_of_getElem? (i := 4) rfl)) rfl hK hP hD hS hA (fun _ => rfl) (by decide) (by decide) (by decide) (Nat.le_of_ble_eq_true rfl) (Nat.le_of_ble_eq_true rfl) dX2_init_13 (fun q_3 y_4 H hK hP hD hS => ?_)
  have hK : va_K D vwCl [(z1, .int), (z2, .int), (y_2, .int), (y_4, .int)] s := hK
  have hP : va_P D vwCl [(h0, .inr (2, [.int 0, .int 0, .int 0, .int 0, .ref q_1, .null, .null, .int 0, .int 0, .int 0])), (o, .inr (5, [.ref o1, .ref o2])), (o1, .inl (z1, 4, .inl g1)), (o2, .inl (z2, 4, .inl g2)), (q_1, .inl (y_2, 5, .inl (fun _ => 0))), (q_3, .inl (y_4, 5, .inl (fun _ => 0)))] H := hP
  have hD : va_D A [(h0, .inr (2, [.int 0, .int 0, .int 0, .int 0, .ref q_1, .null, .null, .int 0, .int 0, .int 0])), (o, .inr (5, [.ref o1, .ref o2])), (o1, .inl (z1, 4, .inl g1)), (o2, .inl (z2, 4, .inl g2)), (q_1, .inl (y_2, 5, .inl (fun _ => 0))), (q_3, .inl (y_4, 5, .inl (fun _ => 0)))] := hD
  refine W.widen (k := 2) (n := 10) (by omega) (by omega) ?_
  refine va_putF (D := D) (ci := 2) (v := .ref q_3) (ty := .array .int) (C := RX2) (T := TX2) (N := 10) hx hb hts hin2 tyX2 tyX2_ok nmX2 hown hK hP hD hS 0 rfl rfl 5 (by decide) (hts (.fieldLink RX2 15 "HoneyHouse$Lot" "high" "[I") (List.mem_of_getElem? (i := 6) rfl)) (fun _ h9 => h9) rfl hin rfl (tyX2_ok 5 (by decide)) rfl rfl (Nat.le_of_ble_eq_true rfl) dX2_init_15 (fun H locs hP hD hS => ?_)
  have hP : va_P D vwCl [(h0, .inr (2, [.int 0, .int 0, .int 0, .int 0, .ref q_1, .ref q_3, .null, .int 0, .int 0, .int 0])), (o, .inr (5, [.ref o1, .ref o2])), (o1, .inl (z1, 4, .inl g1)), (o2, .inl (z2, 4, .inl g2)), (q_1, .inl (y_2, 5, .inl (fun _ => 0))), (q_3, .inl (y_4, 5, .inl (fun _ => 0)))] H := hP
  have hD : va_D A [(h0, .inr (2, [.int 0, .int 0, .int 0, .int 0, .ref q_1, .ref q_3, .null, .int 0, .int 0, .int 0])), (o, .inr (5, [.ref o1, .ref o2])), (o1, .inl (z1, 4, .inl g1)), (o2, .inl (z2, 4, .inl g2)), (q_1, .inl (y_2, 5, .inl (fun _ => 0))), (q_3, .inl (y_4, 5, .inl (fun _ => 0)))] := hD
  refine lv_aload_n hx hb dX2_init_18 rfl (lv_at hl 0 rfl) ?_
  refine va_new (ci := 5) (fs := [.null, .null]) (C := RX5) (T := TX5) (N := 2) hx hb hts hin5 tyX5 tyX5_ok hown (hts (.classLink RX2 18 RX5) (List.mem_of_getElem? (i := 7) rfl)) (hts (.instantiable RX5 2) (List.mem_of_getElem? (i := 8) rfl)) (hts (.initialized RX5) (List.mem_of_getElem? (i := 9) rfl)) hK hP hD hS hA rfl (fun j hj => by rcases (show j = 0 ∨ j = 1 by omega) with rfl | rfl <;> rfl) (Nat.le_of_ble_eq_true rfl) (Nat.le_of_ble_eq_true rfl) dX2_init_19 (fun q_5 H hP hD hS => ?_)
  have hP : va_P D vwCl [(h0, .inr (2, [.int 0, .int 0, .int 0, .int 0, .ref q_1, .ref q_3, .null, .int 0, .int 0, .int 0])), (o, .inr (5, [.ref o1, .ref o2])), (o1, .inl (z1, 4, .inl g1)), (o2, .inl (z2, 4, .inl g2)), (q_1, .inl (y_2, 5, .inl (fun _ => 0))), (q_3, .inl (y_4, 5, .inl (fun _ => 0))), (q_5, .inr (5, [.null, .null]))] H := hP
  have hD : va_D A [(h0, .inr (2, [.int 0, .int 0, .int 0, .int 0, .ref q_1, .ref q_3, .null, .int 0, .int 0, .int 0])), (o, .inr (5, [.ref o1, .ref o2])), (o1, .inl (z1, 4, .inl g1)), (o2, .inl (z2, 4, .inl g2)), (q_1, .inl (y_2, 5, .inl (fun _ => 0))), (q_3, .inl (y_4, 5, .inl (fun _ => 0))), (q_5, .inr (5, [.null, .null]))] := hD
  refine W.widen (k := 3) (n := 12) (by omega) (by omega) ?_
  refine lv_dup hx hb dX2_init_22 rfl ?_
  have hPc := hP.sub (ws' := [(q_5, .inr (5, [.null, .null]))]) [6] rfl
  have hDc := hD.sub (ws' := [(q_5, .inr (5, [.null, .null]))]) [6] (by decide) rfl
  have hKc := hK.sub (tys' := []) [] rfl
  have hFc := va_free (wc := [(q_5, .inr (5, [.null, .null]))]) hD hS hA [6] rfl
  refine va_callv (va_runIN (As := []) (rest := [.ref q_5, .ref h0]) ⟨hx, hb, hml, hown, hts⟩ (q_X5_init l D q_5 H.size) ⟨va_cnB 0 hts gX2_init_X5_init_n20 rfl rfl rfl hn20 (hts (.initialized RX5) (List.mem_of_getElem? (i := 9) rfl)) (by decide +kernel) ⟨Nat.le_of_ble_eq_true rfl, Nat.le_of_ble_eq_true rfl⟩, rfl, (hts (.instanceMethod yX5_init) (List.mem_of_getElem? (i := 18) rfl))⟩ ⟨fun a U g mk q => by obtain ⟨q0, q1, qP, qK, qD⟩ := q; exact ⟨q0, q1, qP, va_K.moved (u := U) (U := U.calling g mk a) (Vm.Alike.refl U.vm) qK, qD⟩, fun U hU hW => ⟨rfl, by rw [hU], by rw [hU]; exact hPc, va_K.moved hW.alike hKc, hDc.weaken (fun _ _ _ _ => trivial)⟩⟩ rfl rfl hl.1 rfl (lv_room (Nat.le_of_ble_eq_true rfl)) dX2_init_23 ⟨Nat.le_of_ble_eq_true rfl, Nat.le_of_ble_eq_true rfl⟩) hS (fun q _ h => hFc q h) hFc (fun u t H1 locs ht hvm w_7 hB hz1 hk1 hS => ?_)
  obtain ⟨q_8, y_9, q_10, y_11, hP1, hK1, hD1⟩ := hB
  rw [ht] at hP1
  have hK1 := va_K.moved hvm.symm hK1
  obtain ⟨hP, hD⟩ := va_join (wr := [(h0, .inr (2, [.int 0, .int 0, .int 0, .int 0, .ref q_1, .ref q_3, .null, .int 0, .int 0, .int 0])), (o, .inr (5, [.ref o1, .ref o2])), (o1, .inl (z1, 4, .inl g1)), (o2, .inl (z2, 4, .inl g2)), (q_1, .inl (y_2, 5, .inl (fun _ => 0))), (q_3, .inl (y_4, 5, .inl (fun _ => 0)))]) (w1 := [(q_5, .inr (5, [.ref q_8, .ref q_10])), (q_8, .inl (y_9, 4, .inl (fun _ => 0))), (q_10, .inl (y_11, 4, .inl (fun _ => 0)))]) hP hD [6] [0, 1, 2, 3, 4, 5] rfl rfl (by decide) (by decide) hk1 hFc hP1 hD1
  have hK := hK.app hK1
  generalize H1 = H at hP hS ⊢
  have hP : va_P D vwCl [(h0, .inr (2, [.int 0, .int 0, .int 0, .int 0, .ref q_1, .ref q_3, .null, .int 0, .int 0, .int 0])), (o, .inr (5, [.ref o1, .ref o2])), (o1, .inl (z1, 4, .inl g1)), (o2, .inl (z2, 4, .inl g2)), (q_1, .inl (y_2, 5, .inl (fun _ => 0))), (q_3, .inl (y_4, 5, .inl (fun _ => 0))), (q_5, .inr (5, [.ref q_8, .ref q_10])), (q_8, .inl (y_9, 4, .inl (fun _ => 0))), (q_10, .inl (y_11, 4, .inl (fun _ => 0)))] H := hP
  have hD : va_D A [(h0, .inr (2, [.int 0, .int 0, .int 0, .int 0, .ref q_1, .ref q_3, .null, .int 0, .int 0, .int 0])), (o, .inr (5, [.ref o1, .ref o2])), (o1, .inl (z1, 4, .inl g1)), (o2, .inl (z2, 4, .inl g2)), (q_1, .inl (y_2, 5, .inl (fun _ => 0))), (q_3, .inl (y_4, 5, .inl (fun _ => 0))), (q_5, .inr (5, [.ref q_8, .ref q_10])), (q_8, .inl (y_9, 4, .inl (fun _ => 0))), (q_10, .inl (y_11, 4, .inl (fun _ => 0)))] := hD
  have hK : va_K D vwCl [(z1, .int), (z2, .int), (y_2, .int), (y_4, .int), (y_9, .int), (y_11, .int)] s := hK
  refine W.widen (k := 5) (n := 20) (by omega) (by omega) ?_
  refine va_putF (D := D) (ci := 2) (v := .ref q_5) (ty := .object "HoneyHouse$Steps") (C := RX2) (T := TX2) (N := 10) hx hb hts hin2 tyX2 tyX2_ok nmX2 hown hK hP hD hS 0 rfl rfl 6 (by decide) (hts (.fieldLink RX2 21 "HoneyHouse$Lot" "steps" "LHoneyHouse$Steps;") (List.mem_of_getElem? (i := 10) rfl)) (fun _ h9 => h9) rfl hin rfl (tyX2_ok 6 (by decide)) rfl rfl (Nat.le_of_ble_eq_true rfl) dX2_init_26 (fun H locs hP hD hS => ?_)
  have hP : va_P D vwCl [(h0, .inr (2, [.int 0, .int 0, .int 0, .int 0, .ref q_1, .ref q_3, .ref q_5, .int 0, .int 0, .int 0])), (o, .inr (5, [.ref o1, .ref o2])), (o1, .inl (z1, 4, .inl g1)), (o2, .inl (z2, 4, .inl g2)), (q_1, .inl (y_2, 5, .inl (fun _ => 0))), (q_3, .inl (y_4, 5, .inl (fun _ => 0))), (q_5, .inr (5, [.ref q_8, .ref q_10])), (q_8, .inl (y_9, 4, .inl (fun _ => 0))), (q_10, .inl (y_11, 4, .inl (fun _ => 0)))] H := hP
  have hD : va_D A [(h0, .inr (2, [.int 0, .int 0, .int 0, .int 0, .ref q_1, .ref q_3, .ref q_5, .int 0, .int 0, .int 0])), (o, .inr (5, [.ref o1, .ref o2])), (o1, .inl (z1, 4, .inl g1)), (o2, .inl (z2, 4, .inl g2)), (q_1, .inl (y_2, 5, .inl (fun _ => 0))), (q_3, .inl (y_4, 5, .inl (fun _ => 0))), (q_5, .inr (5, [.ref q_8, .ref q_10])), (q_8, .inl (y_9, 4, .inl (fun _ => 0))), (q_10, .inl (y_11, 4, .inl (fun _ => 0)))] := hD
  refine lv_aload_n hx hb dX2_init_29 rfl (lv_at hl 0 rfl) ?_
  refine lv_iload_n hx hb dX2_init_30 rfl (lv_at hl 1 rfl) ?_
  refine va_putF (D := D) (ci := 2) (v := .int a1) (ty := .int) (C := RX2) (T := TX2) (N := 10) hx hb hts hin2 tyX2 tyX2_ok nmX2 hown hK hP hD hS 0 rfl rfl 0 (by decide) (hts (.fieldLink RX2 25 "HoneyHouse$Lot" "keeper" "I") (List.mem_of_getElem? (i := 11) rfl)) (fun _ h9 => h9) rfl hin rfl (tyX2_ok 0 (by decide)) rfl rfl (Nat.le_of_ble_eq_true rfl) dX2_init_31 (fun H locs hP hD hS => ?_)
  have hP : va_P D vwCl [(h0, .inr (2, [.int a1, .int 0, .int 0, .int 0, .ref q_1, .ref q_3, .ref q_5, .int 0, .int 0, .int 0])), (o, .inr (5, [.ref o1, .ref o2])), (o1, .inl (z1, 4, .inl g1)), (o2, .inl (z2, 4, .inl g2)), (q_1, .inl (y_2, 5, .inl (fun _ => 0))), (q_3, .inl (y_4, 5, .inl (fun _ => 0))), (q_5, .inr (5, [.ref q_8, .ref q_10])), (q_8, .inl (y_9, 4, .inl (fun _ => 0))), (q_10, .inl (y_11, 4, .inl (fun _ => 0)))] H := hP
  have hD : va_D A [(h0, .inr (2, [.int a1, .int 0, .int 0, .int 0, .ref q_1, .ref q_3, .ref q_5, .int 0, .int 0, .int 0])), (o, .inr (5, [.ref o1, .ref o2])), (o1, .inl (z1, 4, .inl g1)), (o2, .inl (z2, 4, .inl g2)), (q_1, .inl (y_2, 5, .inl (fun _ => 0))), (q_3, .inl (y_4, 5, .inl (fun _ => 0))), (q_5, .inr (5, [.ref q_8, .ref q_10])), (q_8, .inl (y_9, 4, .inl (fun _ => 0))), (q_10, .inl (y_11, 4, .inl (fun _ => 0)))] := hD
  refine lv_aload_n hx hb dX2_init_34 rfl (lv_at hl 0 rfl) ?_
  refine lv_iload_n hx hb dX2_init_35 rfl (lv_at hl 2 rfl) ?_
  refine va_putF (D := D) (ci := 2) (v := .int a2) (ty := .int) (C := RX2) (T := TX2) (N := 10) hx hb hts hin2 tyX2 tyX2_ok nmX2 hown hK hP hD hS 0 rfl rfl 1 (by decide) (hts (.fieldLink RX2 29 "HoneyHouse$Lot" "grams" "I") (List.mem_of_getElem? (i := 12) rfl)) (fun _ h9 => h9) rfl hin rfl (tyX2_ok 1 (by decide)) rfl rfl (Nat.le_of_ble_eq_true rfl) dX2_init_36 (fun H locs hP hD hS => ?_)
  have hP : va_P D vwCl [(h0, .inr (2, [.int a1, .int a2, .int 0, .int 0, .ref q_1, .ref q_3, .ref q_5, .int 0, .int 0, .int 0])), (o, .inr (5, [.ref o1, .ref o2])), (o1, .inl (z1, 4, .inl g1)), (o2, .inl (z2, 4, .inl g2)), (q_1, .inl (y_2, 5, .inl (fun _ => 0))), (q_3, .inl (y_4, 5, .inl (fun _ => 0))), (q_5, .inr (5, [.ref q_8, .ref q_10])), (q_8, .inl (y_9, 4, .inl (fun _ => 0))), (q_10, .inl (y_11, 4, .inl (fun _ => 0)))] H := hP
  have hD : va_D A [(h0, .inr (2, [.int a1, .int a2, .int 0, .int 0, .ref q_1, .ref q_3, .ref q_5, .int 0, .int 0, .int 0])), (o, .inr (5, [.ref o1, .ref o2])), (o1, .inl (z1, 4, .inl g1)), (o2, .inl (z2, 4, .inl g2)), (q_1, .inl (y_2, 5, .inl (fun _ => 0))), (q_3, .inl (y_4, 5, .inl (fun _ => 0))), (q_5, .inr (5, [.ref q_8, .ref q_10])), (q_8, .inl (y_9, 4, .inl (fun _ => 0))), (q_10, .inl (y_11, 4, .inl (fun _ => 0)))] := hD
  refine lv_aload_n hx hb dX2_init_39 rfl (lv_at hl 0 rfl) ?_
  refine lv_iload_n hx hb dX2_init_40 rfl (lv_at hl 3 rfl) ?_
  refine va_put (D := D) (ci := 2) (v := .int a3) (ty := .int) (C := RX2) (T := TX2) (N := 10) hx hb hts hin2 tyX2 tyX2_ok nmX2 hown hK hP hD hS 0 rfl rfl 7 (by decide) (hts (.fieldLink RX2 32 "HoneyHouse$Lot" "water" "I") (List.mem_of_getElem? (i := 13) rfl)) (fun _ h9 => h9) rfl (tyX2_ok 7 (by decide)) rfl rfl (Nat.le_of_ble_eq_true rfl) dX2_init_41 (fun H locs hP hD hS => ?_)
  have hP : va_P D vwCl [(h0, .inr (2, [.int a1, .int a2, .int 0, .int 0, .ref q_1, .ref q_3, .ref q_5, .int a3, .int 0, .int 0])), (o, .inr (5, [.ref o1, .ref o2])), (o1, .inl (z1, 4, .inl g1)), (o2, .inl (z2, 4, .inl g2)), (q_1, .inl (y_2, 5, .inl (fun _ => 0))), (q_3, .inl (y_4, 5, .inl (fun _ => 0))), (q_5, .inr (5, [.ref q_8, .ref q_10])), (q_8, .inl (y_9, 4, .inl (fun _ => 0))), (q_10, .inl (y_11, 4, .inl (fun _ => 0)))] H := hP
  have hD : va_D A [(h0, .inr (2, [.int a1, .int a2, .int 0, .int 0, .ref q_1, .ref q_3, .ref q_5, .int a3, .int 0, .int 0])), (o, .inr (5, [.ref o1, .ref o2])), (o1, .inl (z1, 4, .inl g1)), (o2, .inl (z2, 4, .inl g2)), (q_1, .inl (y_2, 5, .inl (fun _ => 0))), (q_3, .inl (y_4, 5, .inl (fun _ => 0))), (q_5, .inr (5, [.ref q_8, .ref q_10])), (q_8, .inl (y_9, 4, .inl (fun _ => 0))), (q_10, .inl (y_11, 4, .inl (fun _ => 0)))] := hD
  refine lv_aload_n hx hb dX2_init_44 rfl (lv_at hl 0 rfl) ?_
  refine lv_iload hx hb dX2_init_45 (lv_at hl 4 rfl) ?_
  refine va_putF (D := D) (ci := 2) (v := .int a4) (ty := .int) (C := RX2) (T := TX2) (N := 10) hx hb hts hin2 tyX2 tyX2_ok nmX2 hown hK hP hD hS 0 rfl rfl 2 (by decide) (hts (.fieldLink RX2 35 "HoneyHouse$Lot" "colour" "I") (List.mem_of_getElem? (i := 14) rfl)) (fun _ h9 => h9) rfl hin rfl (tyX2_ok 2 (by decide)) rfl rfl (Nat.le_of_ble_eq_true rfl) dX2_init_47 (fun H locs hP hD hS => ?_)
  have hP : va_P D vwCl [(h0, .inr (2, [.int a1, .int a2, .int a4, .int 0, .ref q_1, .ref q_3, .ref q_5, .int a3, .int 0, .int 0])), (o, .inr (5, [.ref o1, .ref o2])), (o1, .inl (z1, 4, .inl g1)), (o2, .inl (z2, 4, .inl g2)), (q_1, .inl (y_2, 5, .inl (fun _ => 0))), (q_3, .inl (y_4, 5, .inl (fun _ => 0))), (q_5, .inr (5, [.ref q_8, .ref q_10])), (q_8, .inl (y_9, 4, .inl (fun _ => 0))), (q_10, .inl (y_11, 4, .inl (fun _ => 0)))] H := hP
  have hD : va_D A [(h0, .inr (2, [.int a1, .int a2, .int a4, .int 0, .ref q_1, .ref q_3, .ref q_5, .int a3, .int 0, .int 0])), (o, .inr (5, [.ref o1, .ref o2])), (o1, .inl (z1, 4, .inl g1)), (o2, .inl (z2, 4, .inl g2)), (q_1, .inl (y_2, 5, .inl (fun _ => 0))), (q_3, .inl (y_4, 5, .inl (fun _ => 0))), (q_5, .inr (5, [.ref q_8, .ref q_10])), (q_8, .inl (y_9, 4, .inl (fun _ => 0))), (q_10, .inl (y_11, 4, .inl (fun _ => 0)))] := hD
  refine lv_aload_n hx hb dX2_init_50 rfl (lv_at hl 0 rfl) ?_
  refine lv_iload hx hb dX2_init_51 (lv_at hl 5 rfl) ?_
  refine va_putF (D := D) (ci := 2) (v := .int a5) (ty := .int) (C := RX2) (T := TX2) (N := 10) hx hb hts hin2 tyX2 tyX2_ok nmX2 hown hK hP hD hS 0 rfl rfl 3 (by decide) (hts (.fieldLink RX2 38 "HoneyHouse$Lot" "land" "I") (List.mem_of_getElem? (i := 15) rfl)) (fun _ h9 => h9) rfl hin rfl (tyX2_ok 3 (by decide)) rfl rfl (Nat.le_of_ble_eq_true rfl) dX2_init_53 (fun H locs hP hD hS => ?_)
  have hP : va_P D vwCl [(h0, .inr (2, [.int a1, .int a2, .int a4, .int a5, .ref q_1, .ref q_3, .ref q_5, .int a3, .int 0, .int 0])), (o, .inr (5, [.ref o1, .ref o2])), (o1, .inl (z1, 4, .inl g1)), (o2, .inl (z2, 4, .inl g2)), (q_1, .inl (y_2, 5, .inl (fun _ => 0))), (q_3, .inl (y_4, 5, .inl (fun _ => 0))), (q_5, .inr (5, [.ref q_8, .ref q_10])), (q_8, .inl (y_9, 4, .inl (fun _ => 0))), (q_10, .inl (y_11, 4, .inl (fun _ => 0)))] H := hP
  have hD : va_D A [(h0, .inr (2, [.int a1, .int a2, .int a4, .int a5, .ref q_1, .ref q_3, .ref q_5, .int a3, .int 0, .int 0])), (o, .inr (5, [.ref o1, .ref o2])), (o1, .inl (z1, 4, .inl g1)), (o2, .inl (z2, 4, .inl g2)), (q_1, .inl (y_2, 5, .inl (fun _ => 0))), (q_3, .inl (y_4, 5, .inl (fun _ => 0))), (q_5, .inr (5, [.ref q_8, .ref q_10])), (q_8, .inl (y_9, 4, .inl (fun _ => 0))), (q_10, .inl (y_11, 4, .inl (fun _ => 0)))] := hD
  refine lv_aload_n hx hb dX2_init_56 rfl (lv_at hl 0 rfl) ?_
  refine va_get (D := D) (ci := 2) (v := .ref q_3) (C := RX2) (T := TX2) (N := 10) hx hb hts hin2 hown hK hP 0 rfl rfl 5 (by decide) (hts (.fieldLink RX2 15 "HoneyHouse$Lot" "high" "[I") (List.mem_of_getElem? (i := 6) rfl)) (fun _ h9 => h9) rfl dX2_init_57 ?_
  refine lv_sipush (v := 1000) hx hb dX2_init_60 (by decide) ?_
  have hPc := hP.sub (ws' := [(q_3, .inl (y_4, 5, .inl (fun _ => 0)))]) [5] rfl
  have hDc := hD.sub (ws' := [(q_3, .inl (y_4, 5, .inl (fun _ => 0)))]) [5] (by decide) rfl
  have hKc := hK.sub (tys' := [(y_4, .int)]) [3] rfl
  have hFc := va_free (wc := [(q_3, .inl (y_4, 5, .inl (fun _ => 0)))]) hD hS hA [5] rfl
  refine va_callv (va_runS (As := [.ref q_3, .int 1000]) (rest := []) ⟨hx, hb, hml, hown, hts⟩ (q_J7_fill5 l D q_3 y_4 (fun _ => 0) 1000 H.size) (va_cwS 2 hts gX2_init_J7_fill_53178 rfl rfl rfl (by decide +kernel) ⟨Nat.le_of_ble_eq_true rfl, Nat.le_of_ble_eq_true rfl⟩) ⟨fun a U g mk q => by obtain ⟨q0, q1, qP, qK, qD⟩ := q; exact ⟨q0, q1, qP, va_K.moved (u := U) (U := U.calling g mk a) (Vm.Alike.refl U.vm) qK, qD⟩, fun U hU hW => ⟨rfl, by rw [hU], by rw [hU]; exact hPc, va_K.moved hW.alike hKc, hDc.weaken (fun _ _ _ _ => trivial)⟩⟩ rfl rfl hl.1 rfl (lv_room (Nat.le_of_ble_eq_true rfl)) dX2_init_63 ⟨Nat.le_of_ble_eq_true rfl, Nat.le_of_ble_eq_true rfl⟩) hS (fun q _ h => hFc q h) hFc (fun u t H1 locs ht hvm w_13 hB hz1 hk1 hS => ?_)
  obtain ⟨f_14, hP1, hK1, hD1⟩ := hB
  rw [ht] at hP1
  have hK1 := va_K.moved hvm.symm hK1
  obtain ⟨hP, hD⟩ := va_join (wr := [(h0, .inr (2, [.int a1, .int a2, .int a4, .int a5, .ref q_1, .ref q_3, .ref q_5, .int a3, .int 0, .int 0])), (o, .inr (5, [.ref o1, .ref o2])), (o1, .inl (z1, 4, .inl g1)), (o2, .inl (z2, 4, .inl g2)), (q_1, .inl (y_2, 5, .inl (fun _ => 0))), (q_5, .inr (5, [.ref q_8, .ref q_10])), (q_8, .inl (y_9, 4, .inl (fun _ => 0))), (q_10, .inl (y_11, 4, .inl (fun _ => 0)))]) (w1 := [(q_3, .inl (y_4, 5, .inl f_14))]) hP hD [5] [0, 1, 2, 3, 4, 6, 7, 8] rfl rfl (by decide) (by decide) hk1 hFc hP1 hD1
  have hK := hK.app hK1
  generalize H1 = H at hP hS ⊢
  have hP : va_P D vwCl [(h0, .inr (2, [.int a1, .int a2, .int a4, .int a5, .ref q_1, .ref q_3, .ref q_5, .int a3, .int 0, .int 0])), (o, .inr (5, [.ref o1, .ref o2])), (o1, .inl (z1, 4, .inl g1)), (o2, .inl (z2, 4, .inl g2)), (q_1, .inl (y_2, 5, .inl (fun _ => 0))), (q_5, .inr (5, [.ref q_8, .ref q_10])), (q_8, .inl (y_9, 4, .inl (fun _ => 0))), (q_10, .inl (y_11, 4, .inl (fun _ => 0))), (q_3, .inl (y_4, 5, .inl f_14))] H := hP
  have hD : va_D A [(h0, .inr (2, [.int a1, .int a2, .int a4, .int a5, .ref q_1, .ref q_3, .ref q_5, .int a3, .int 0, .int 0])), (o, .inr (5, [.ref o1, .ref o2])), (o1, .inl (z1, 4, .inl g1)), (o2, .inl (z2, 4, .inl g2)), (q_1, .inl (y_2, 5, .inl (fun _ => 0))), (q_5, .inr (5, [.ref q_8, .ref q_10])), (q_8, .inl (y_9, 4, .inl (fun _ => 0))), (q_10, .inl (y_11, 4, .inl (fun _ => 0))), (q_3, .inl (y_4, 5, .inl f_14))] := hD
  have hK : va_K D vwCl [(z1, .int), (z2, .int), (y_2, .int), (y_4, .int), (y_9, .int), (y_11, .int), (y_4, .int)] s := hK
  refine lv_aload_n hx hb dX2_init_66 rfl (lv_at hl 0 rfl) ?_
  refine va_get (D := D) (ci := 2) (v := .ref q_5) (C := RX2) (T := TX2) (N := 10) hx hb hts hin2 hown hK hP 0 rfl rfl 6 (by decide) (hts (.fieldLink RX2 21 "HoneyHouse$Lot" "steps" "LHoneyHouse$Steps;") (List.mem_of_getElem? (i := 10) rfl)) (fun _ h9 => h9) rfl dX2_init_67 ?_
  refine lv_aload hx hb dX2_init_70 (lv_at hl 6 rfl) ?_
  have hPc := hP.sub (ws' := [(q_5, .inr (5, [.ref q_8, .ref q_10])), (q_8, .inl (y_9, 4, .inl (fun _ => 0))), (q_10, .inl (y_11, 4, .inl (fun _ => 0))), (o, .inr (5, [.ref o1, .ref o2])), (o1, .inl (z1, 4, .inl g1)), (o2, .inl (z2, 4, .inl g2))]) [5, 6, 7, 1, 2, 3] rfl
  have hDc := hD.sub (ws' := [(q_5, .inr (5, [.ref q_8, .ref q_10])), (q_8, .inl (y_9, 4, .inl (fun _ => 0))), (q_10, .inl (y_11, 4, .inl (fun _ => 0))), (o, .inr (5, [.ref o1, .ref o2])), (o1, .inl (z1, 4, .inl g1)), (o2, .inl (z2, 4, .inl g2))]) [5, 6, 7, 1, 2, 3] (by decide) rfl
  have hKc := hK.sub (tys' := [(y_9, .int), (y_11, .int), (z1, .int), (z2, .int)]) [4, 5, 0, 1] rfl
  have hFc := va_free (wc := [(q_5, .inr (5, [.ref q_8, .ref q_10])), (q_8, .inl (y_9, 4, .inl (fun _ => 0))), (q_10, .inl (y_11, 4, .inl (fun _ => 0))), (o, .inr (5, [.ref o1, .ref o2])), (o1, .inl (z1, 4, .inl g1)), (o2, .inl (z2, 4, .inl g2))]) hD hS hA [5, 6, 7, 1, 2, 3] rfl
  refine va_callv (va_runV (As := [.ref o]) (rest := []) ⟨hx, hb, hml, hown, hts⟩ (q_X5_copyFrom l D q_5 q_8 q_10 o o1 o2 y_9 y_11 z1 z2 (fun _ => 0) (fun _ => 0) g1 g2 H.size) (cwV 1 hts gX2_init_X5_copyFrom rfl rfl rfl (by decide +kernel) ⟨Nat.le_of_ble_eq_true rfl, Nat.le_of_ble_eq_true rfl⟩) ⟨fun a U g mk q => by obtain ⟨q0, q1, qP, qK, qD⟩ := q; exact ⟨q0, q1, qP, va_K.moved (u := U) (U := U.calling g mk a) (Vm.Alike.refl U.vm) qK, qD⟩, va_recv hKc hPc (ci := 5) (q0 := 0) rfl rfl, fun U hU hW => ⟨rfl, by rw [hU], by rw [hU]; exact hPc, va_K.moved hW.alike hKc, hDc.weaken (fun _ _ _ _ => trivial)⟩⟩ rfl rfl hl.1 rfl (lv_room (Nat.le_of_ble_eq_true rfl)) dX2_init_72 ⟨Nat.le_of_ble_eq_true rfl, Nat.le_of_ble_eq_true rfl⟩) hS (fun q _ h => hFc q h) hFc (fun u t H1 locs ht hvm w_16 hB hz1 hk1 hS => ?_)
  obtain ⟨f_17, f_18, hP1, hK1, hD1⟩ := hB
  rw [ht] at hP1
  have hK1 := va_K.moved hvm.symm hK1
  obtain ⟨hP, hD⟩ := va_join (wr := [(h0, .inr (2, [.int a1, .int a2, .int a4, .int a5, .ref q_1, .ref q_3, .ref q_5, .int a3, .int 0, .int 0])), (q_1, .inl (y_2, 5, .inl (fun _ => 0))), (q_3, .inl (y_4, 5, .inl f_14))]) (w1 := [(q_5, .inr (5, [.ref q_8, .ref q_10])), (q_8, .inl (y_9, 4, .inl f_17)), (q_10, .inl (y_11, 4, .inl f_18))]) hP hD [5, 6, 7, 1, 2, 3] [0, 4, 8] rfl rfl (by decide) (by decide) hk1 hFc hP1 hD1
  have hK := hK.app hK1
  generalize H1 = H at hP hS ⊢
  have hP : va_P D vwCl [(h0, .inr (2, [.int a1, .int a2, .int a4, .int a5, .ref q_1, .ref q_3, .ref q_5, .int a3, .int 0, .int 0])), (q_1, .inl (y_2, 5, .inl (fun _ => 0))), (q_3, .inl (y_4, 5, .inl f_14)), (q_5, .inr (5, [.ref q_8, .ref q_10])), (q_8, .inl (y_9, 4, .inl f_17)), (q_10, .inl (y_11, 4, .inl f_18))] H := hP
  have hD : va_D A [(h0, .inr (2, [.int a1, .int a2, .int a4, .int a5, .ref q_1, .ref q_3, .ref q_5, .int a3, .int 0, .int 0])), (q_1, .inl (y_2, 5, .inl (fun _ => 0))), (q_3, .inl (y_4, 5, .inl f_14)), (q_5, .inr (5, [.ref q_8, .ref q_10])), (q_8, .inl (y_9, 4, .inl f_17)), (q_10, .inl (y_11, 4, .inl f_18))] := hD
  have hK : va_K D vwCl [(z1, .int), (z2, .int), (y_2, .int), (y_4, .int), (y_9, .int), (y_11, .int), (y_4, .int), (y_9, .int), (y_11, .int)] s := hK
  refine lv_aload_n hx hb dX2_init_75 rfl (lv_at hl 0 rfl) ?_
  refine lv_iload_n hx hb dX2_init_76 rfl (lv_at hl 2 rfl) ?_
  refine va_put (D := D) (ci := 2) (v := .int a2) (ty := .int) (C := RX2) (T := TX2) (N := 10) hx hb hts hin2 tyX2 tyX2_ok nmX2 hown hK hP hD hS 0 rfl rfl 8 (by decide) (hts (.fieldLink RX2 51 "HoneyHouse$Lot" "left" "I") (List.mem_of_getElem? (i := 16) rfl)) (fun _ h9 => h9) rfl (tyX2_ok 8 (by decide)) rfl rfl (Nat.le_of_ble_eq_true rfl) dX2_init_77 (fun H locs hP hD hS => ?_)
  have hP : va_P D vwCl [(h0, .inr (2, [.int a1, .int a2, .int a4, .int a5, .ref q_1, .ref q_3, .ref q_5, .int a3, .int a2, .int 0])), (q_1, .inl (y_2, 5, .inl (fun _ => 0))), (q_3, .inl (y_4, 5, .inl f_14)), (q_5, .inr (5, [.ref q_8, .ref q_10])), (q_8, .inl (y_9, 4, .inl f_17)), (q_10, .inl (y_11, 4, .inl f_18))] H := hP
  have hD : va_D A [(h0, .inr (2, [.int a1, .int a2, .int a4, .int a5, .ref q_1, .ref q_3, .ref q_5, .int a3, .int a2, .int 0])), (q_1, .inl (y_2, 5, .inl (fun _ => 0))), (q_3, .inl (y_4, 5, .inl f_14)), (q_5, .inr (5, [.ref q_8, .ref q_10])), (q_8, .inl (y_9, 4, .inl f_17)), (q_10, .inl (y_11, 4, .inl f_18))] := hD
  refine lv_aload_n hx hb dX2_init_80 rfl (lv_at hl 0 rfl) ?_
  refine lv_aload_n hx hb dX2_init_81 rfl (lv_at hl 0 rfl) ?_
  refine va_get (D := D) (ci := 2) (v := .ref q_5) (C := RX2) (T := TX2) (N := 10) hx hb hts hin2 hown hK hP 0 rfl rfl 6 (by decide) (hts (.fieldLink RX2 21 "HoneyHouse$Lot" "steps" "LHoneyHouse$Steps;") (List.mem_of_getElem? (i := 10) rfl)) (fun _ h9 => h9) rfl dX2_init_82 ?_
  refine lv_iload_n hx hb dX2_init_85 rfl (lv_at hl 2 rfl) ?_
  refine lv_iload_n hx hb dX2_init_86 rfl (lv_at hl 3 rfl) ?_
  refine vp_callSi (W.runV (As := [.int a2, .int a3]) (rest := [.ref h0]) ⟨hx, hb, hml, hown, hts⟩ (s_X5_payFor l D [(h0, .inr (2, [.int a1, .int a2, .int a4, .int a5, .ref q_1, .ref q_3, .ref q_5, .int a3, .int a2, .int 0])), (q_1, .inl (y_2, 5, .inl (fun _ => 0))), (q_3, .inl (y_4, 5, .inl f_14)), (q_5, .inr (5, [.ref q_8, .ref q_10])), (q_8, .inl (y_9, 4, .inl f_17)), (q_10, .inl (y_11, 4, .inl f_18))] [(z1, .int), (z2, .int), (y_2, .int), (y_4, .int), (y_9, .int), (y_11, .int), (y_4, .int), (y_9, .int), (y_11, .int)] q_5 3 q_8 4 q_10 5 y_9 y_11 4 5 f_17 f_18 _ a2 a3 rfl rfl rfl rfl rfl rfl rfl) (cwV 2 hts gX2_init_X5_payFor rfl rfl rfl (by decide +kernel) ⟨Nat.le_of_ble_eq_true rfl, Nat.le_of_ble_eq_true rfl⟩) ⟨fun a U g mk q => ⟨q.1, q.2.1, va_K.moved (u := U) (U := U.calling g mk a) (Vm.Alike.refl U.vm) q.2.2⟩, va_recv hK hP (ci := 5) (q0 := 3) rfl rfl, fun U hU hW => ⟨rfl, by rw [hU]; exact hP, va_K.moved hW.alike hK⟩⟩ rfl rfl hl.1 rfl (lv_room (Nat.le_of_ble_eq_true rfl)) dX2_init_87 ⟨Nat.le_of_ble_eq_true rfl, Nat.le_of_ble_eq_true rfl⟩) (fun r_19 k_20 => ?_)
  refine va_put (D := D) (ci := 2) (v := .int r_19) (ty := .int) (C := RX2) (T := TX2) (N := 10) hx hb hts hin2 tyX2 tyX2_ok nmX2 hown hK hP hD hS 0 rfl rfl 9 (by decide) (hts (.fieldLink RX2 58 "HoneyHouse$Lot" "pay" "I") (List.mem_of_getElem? (i := 17) rfl)) (fun _ h9 => h9) rfl (tyX2_ok 9 (by decide)) rfl rfl (Nat.le_of_ble_eq_true rfl) dX2_init_90 (fun H locs hP hD hS => ?_)
  have hP : va_P D vwCl [(h0, .inr (2, [.int a1, .int a2, .int a4, .int a5, .ref q_1, .ref q_3, .ref q_5, .int a3, .int a2, .int r_19])), (q_1, .inl (y_2, 5, .inl (fun _ => 0))), (q_3, .inl (y_4, 5, .inl f_14)), (q_5, .inr (5, [.ref q_8, .ref q_10])), (q_8, .inl (y_9, 4, .inl f_17)), (q_10, .inl (y_11, 4, .inl f_18))] H := hP
  have hD : va_D A [(h0, .inr (2, [.int a1, .int a2, .int a4, .int a5, .ref q_1, .ref q_3, .ref q_5, .int a3, .int a2, .int r_19])), (q_1, .inl (y_2, 5, .inl (fun _ => 0))), (q_3, .inl (y_4, 5, .inl f_14)), (q_5, .inr (5, [.ref q_8, .ref q_10])), (q_8, .inl (y_9, 4, .inl f_17)), (q_10, .inl (y_11, 4, .inl f_18))] := hD
  have hP9 := hP.sub (ws' := [(h0, .inr (2, [.int a1, .int a2, .int a4, .int a5, .ref q_1, .ref q_3, .ref q_5, .int a3, .int a2, .int r_19]))]) [0] rfl
  have hD9 := hD.sub (ws' := [(h0, .inr (2, [.int a1, .int a2, .int a4, .int a5, .ref q_1, .ref q_3, .ref q_5, .int a3, .int a2, .int r_19]))]) [0] (by decide) rfl
  have hK9 := hK.sub (tys' := []) [] rfl
  refine W.widen (k := 5) (n := 20) (by omega) (by omega) ?_
  exact W.vret hx hb hr (fun t ht hW => ⟨⟨(), rfl, trivial, [.int a1, .int a2, .int a4, .int a5, .ref q_1, .ref q_3, .ref q_5, .int a3, .int a2, .int r_19], by rw [ht]; exact hP9, va_K.moved hW.alike hK9, hD9⟩, hS.F ht⟩) hS.2.2 dX2_init_93
set_option maxHeartbeats 4000000 in
set_option maxRecDepth 100000 in
theorem q_X8_lot (l : Launch) (D : va_G) (h0 la ta ba ra sn rd dr bl vd fb sw sp : Nat) (c1 z1 z2 : ClassId) (a1 a2 a3 a4 a5 : Int32) (sz : Nat)  : Met l yX8_lot wsX8_lot ({ frames := 3, cells := 6, slots := 30, locals := 87 }) (va_Pc [.ref h0, .int a1, .int a2, .int a3, .int a4, .int a5] (fun U => U.heap.size = sz ∧ va_P D vwCl [(h0, .inr (8, [.ref la, .ref ta, .ref ba, .ref ra, .ref sn, .ref rd, .ref dr, .ref bl, .ref vd, .ref fb, .int 0, .int 0, .int 0, .int 0, .int 0])), (la, .inl (c1, 40, .inr (.inr (.inr (.inr (fun _ => none)))))), (sn, .inr (5, [.ref sw, .ref sp])), (sw, .inl (z1, 4, .inl (fun _ => 0))), (sp, .inl (z2, 4, .inl (fun _ => 0)))] U.heap ∧ va_K D vwCl [(c1, .object RX2), (z1, .int), (z2, .int)] U ∧ va_D (fun _ => True) [(h0, .inr (8, [.ref la, .ref ta, .ref ba, .ref ra, .ref sn, .ref rd, .ref dr, .ref bl, .ref vd, .ref fb, .int 0, .int 0, .int 0, .int 0, .int 0])), (la, .inl (c1, 40, .inr (.inr (.inr (.inr (fun _ => none)))))), (sn, .inr (5, [.ref sw, .ref sp])), (sw, .inl (z1, 4, .inl (fun _ => 0))), (sp, .inl (z2, 4, .inl (fun _ => 0)))] ∧ va_Nw (.methodLinkNest RX2 20 yX5_init RX8) U)) (va_Qi (fun (r : Int32) (_ : Unit) => r = if (a1 < 0 ∨ 9 < a1) ∨ (a2 < 1 ∨ 200000 < a2) ∨ (a3 < 100 ∨ 300 < a3) ∨ (a4 < 0 ∨ 140 < a4) ∨ (a5 < 0 ∨ 3 < a5) then (-1) else 0) (fun (_ : Unit) (t : State) => va_P D vwCl [] t.heap ∧ va_K D vwCl [] t ∧ va_D (va_A [(h0, .inr (8, [.ref la, .ref ta, .ref ba, .ref ra, .ref sn, .ref rd, .ref dr, .ref bl, .ref vd, .ref fb, .int 0, .int 0, .int 0, .int 0, .int 0])), (la, .inl (c1, 40, .inr (.inr (.inr (.inr (fun _ => none)))))), (sn, .inr (5, [.ref sw, .ref sp])), (sw, .inl (z1, 4, .inl (fun _ => 0))), (sp, .inl (z2, 4, .inl (fun _ => 0)))] sz) []) (va_A [(h0, .inr (8, [.ref la, .ref ta, .ref ba, .ref ra, .ref sn, .ref rd, .ref dr, .ref bl, .ref vd, .ref fb, .int 0, .int 0, .int 0, .int 0, .int 0])), (la, .inl (c1, 40, .inr (.inr (.inr (.inr (fun _ => none)))))), (sn, .inr (5, [.ref sw, .ref sp])), (sw, .inl (z1, 4, .inl (fun _ => 0))), (sp, .inl (z2, 4, .inl (fun _ => 0)))] sz)) 6 30 (va_A [(h0, .inr (8, [.ref la, .ref ta, .ref ba, .ref ra, .ref sn, .ref rd, .ref dr, .ref bl, .ref vd, .ref fb, .int 0, .int 0, .int 0, .int 0, .int 0])), (la, .inl (c1, 40, .inr (.inr (.inr (.inr (fun _ => none)))))), (sn, .inr (5, [.ref sw, .ref sp])), (sw, .inl (z1, 4, .inl (fun _ => 0))), (sp, .inl (z2, 4, .inl (fun _ => 0)))] sz) := by
  refine Met.ofW (cc := cX8_lot) (maxL := 7) (ret := (some .int)) (by decide) rfl ?_
  intro p e s m args below meth c s₁ B hml hv
  obtain ⟨rfl, hsz, hP, hK, hD0, hn20⟩ := hv
  have hx := B.exec
  have hb := B.bytes
  have hr := B.returns
  have hts := atoms_spec (ws := wsX8_lot) B.pre
  have hown : s.vm.findClass RX8 = some m.cls := findClass_of_methodNamed B.named
  have hlocks := B.notSynchronized
  subst hsz
  have hD := hD0.self (sz := s.heap.size)
  generalize hAe : va_A [(h0, .inr (8, [.ref la, .ref ta, .ref ba, .ref ra, .ref sn, .ref rd, .ref dr, .ref bl, .ref vd, .ref fb, .int 0, .int 0, .int 0, .int 0, .int 0])), (la, .inl (c1, 40, .inr (.inr (.inr (.inr (fun _ => none)))))), (sn, .inr (5, [.ref sw, .ref sp])), (sw, .inl (z1, 4, .inl (fun _ => 0))), (sp, .inl (z2, 4, .inl (fun _ => 0)))] s.heap.size = A at hD ⊢
  have hA : ∀ q : Nat, s.heap.size ≤ q → A q := fun q h => by rw [← hAe]; exact Or.inr h
  have hS : va_S A s.heap s.heap [] := va_S.rf
  have hP : va_P D vwCl [(h0, .inr (8, [.ref la, .ref ta, .ref ba, .ref ra, .ref sn, .ref rd, .ref dr, .ref bl, .ref vd, .ref fb, .int 0, .int 0, .int 0, .int 0, .int 0])), (la, .inl (c1, 40, .inr (.inr (.inr (.inr (fun _ => none)))))), (sn, .inr (5, [.ref sw, .ref sp])), (sw, .inl (z1, 4, .inl (fun _ => 0))), (sp, .inl (z2, 4, .inl (fun _ => 0)))] s.heap := hP
  have hin2 : ∀ w ∈ u_ws RX2 TX2 10, w ∈ wsX8_lot := (fun _ h9 => List.mem_cons_of_mem _ (List.mem_append_left _ ((List.mem_append_right _ h9))))
  have hin8 : ∀ w ∈ u_ws RX8 TX8 15, w ∈ wsX8_lot := (fun _ h9 => List.mem_cons_of_mem _ (List.mem_append_left _ (List.mem_append_left _ ((List.mem_append_right _ h9)))))
  have hl := lv_entry ([.ref h0, .int a1, .int a2, .int a3, .int a4, .int a5]) (n := 7) (Nat.le_of_ble_eq_true rfl)
  rw [lg_entry_eq]
  generalize (lg_sl ([.ref h0, .int a1, .int a2, .int a3, .int a4, .int a5]) ++ List.replicate (7 - (lg_sl ([.ref h0, .int a1, .int a2, .int a3, .int a4, .int a5])).length) Slot.unset).toArray = ls at hl ⊢
  have hl : lv_has ls 7 [(0, .ref h0), (1, .int a1), (2, .int a2), (3, .int a3), (4, .int a4), (5, .int a5)] := hl
  refine lv_iload_n hx hb dX8_lot_0 rfl (lv_at hl 1 rfl) ?_
  refine lv_iconst (v := 0) hx hb dX8_lot_1 (by decide) ?_
  refine lv_bipush (v := 9) hx hb dX8_lot_2 (by decide) ?_
  refine vp_callSi (W.runS (As := [.int a1, .int 0, .int 9]) (rest := []) ⟨hx, hb, hml, hown, hts⟩ (s_X8_isIn l a1 0 9) (va_cwS 3 hts gX8_lot_X8_isIn rfl rfl rfl (by decide +kernel) ⟨Nat.le_of_ble_eq_true rfl, Nat.le_of_ble_eq_true rfl⟩) ⟨fun a U g mk q => q, fun U hU hW => ⟨rfl, trivial⟩⟩ rfl rfl hl.1 rfl (lv_room (Nat.le_of_ble_eq_true rfl)) dX8_lot_4 ⟨Nat.le_of_ble_eq_true rfl, Nat.le_of_ble_eq_true rfl⟩) (fun r_1 k_2 => ?_)
  rcases k_2 with ⟨rfl, a_3o⟩ | ⟨rfl, a_3, b_4⟩
  · refine lv_if_eq (tgt := 58) hx hb dX8_lot_7 (by decide) (fun c_5 => ?_) (fun c_5 => absurd (by decide) c_5)
    refine lv_iconst (v := 0) hx hb dX8_lot_58 (by decide) ?_
    refine lv_istore (lv' := [(6, .int 0), (0, .ref h0), (1, .int a1), (2, .int a2), (3, .int a3), (4, .int a4), (5, .int a5)]) hx hb dX8_lot_59 hl (by decide) rfl (fun ls hl => ?_)
    refine lv_iload hx hb dX8_lot_61 (lv_at hl 0 rfl) ?_
    refine lv_if_eq (tgt := 78) hx hb dX8_lot_63 (by decide) (fun c_6 => ?_) (fun c_6 => absurd (by decide) c_6)
    refine lv_iconst (v := (-1)) hx hb dX8_lot_78 (by decide) ?_
    have hP9 := hP.sub (ws' := []) [] rfl
    have hD9 := hD.sub (ws' := []) [] (by decide) rfl
    have hK9 := hK.sub (tys' := []) [] rfl
    refine W.widen (k := 6) (n := 30) (by omega) (by omega) ?_
    exact W.iret (v := (-1)) hx hb hr (fun t ht hW => ⟨⟨(-1), (), rfl, (by rcases a_3o with a_3o | a_3o <;> simp_all), by rw [ht]; exact hP9, va_K.moved hW.alike hK9, hD9⟩, hS.F ht⟩) hS.2.2 dX8_lot_79
  refine lv_if_eq (tgt := 58) hx hb dX8_lot_7 (by decide) (fun c_7 => absurd c_7 (by decide)) (fun c_7 => ?_)
  refine lv_iload_n hx hb dX8_lot_10 rfl (lv_at hl 2 rfl) ?_
  refine lv_iconst (v := 1) hx hb dX8_lot_11 (by decide) ?_
  refine lv_ldc hx hb hown (hts (.constant RX8 89 (200000)) (List.mem_of_getElem? (i := 1) rfl)) dX8_lot_12 ?_
  refine vp_callSi (W.runS (As := [.int a2, .int 1, .int 200000]) (rest := []) ⟨hx, hb, hml, hown, hts⟩ (s_X8_isIn l a2 1 200000) (va_cwS 3 hts gX8_lot_X8_isIn rfl rfl rfl (by decide +kernel) ⟨Nat.le_of_ble_eq_true rfl, Nat.le_of_ble_eq_true rfl⟩) ⟨fun a U g mk q => q, fun U hU hW => ⟨rfl, trivial⟩⟩ rfl rfl hl.1 rfl (lv_room (Nat.le_of_ble_eq_true rfl)) dX8_lot_14 ⟨Nat.le_of_ble_eq_true rfl, Nat.le_of_ble_eq_true rfl⟩) (fun r_8 k_9 => ?_)
  rcases k_9 with ⟨rfl, a_10o⟩ | ⟨rfl, a_10, b_11⟩
  · refine lv_if_eq (tgt := 58) hx hb dX8_lot_17 (by decide) (fun c_12 => ?_) (fun c_12 => absurd (by decide) c_12)
    refine lv_iconst (v := 0) hx hb dX8_lot_58 (by decide) ?_
    refine lv_istore (lv' := [(6, .int 0), (0, .ref h0), (1, .int a1), (2, .int a2), (3, .int a3), (4, .int a4), (5, .int a5)]) hx hb dX8_lot_59 hl (by decide) rfl (fun ls hl => ?_)
    refine lv_iload hx hb dX8_lot_61 (lv_at hl 0 rfl) ?_
    refine lv_if_eq (tgt := 78) hx hb dX8_lot_63 (by decide) (fun c_13 => ?_) (fun c_13 => absurd (by decide) c_13)
    refine lv_iconst (v := (-1)) hx hb dX8_lot_78 (by decide) ?_
    have hP9 := hP.sub (ws' := []) [] rfl
    have hD9 := hD.sub (ws' := []) [] (by decide) rfl
    have hK9 := hK.sub (tys' := []) [] rfl
    refine W.widen (k := 6) (n := 30) (by omega) (by omega) ?_
    exact W.iret (v := (-1)) hx hb hr (fun t ht hW => ⟨⟨(-1), (), rfl, (by rcases a_10o with a_10o | a_10o <;> simp_all), by rw [ht]; exact hP9, va_K.moved hW.alike hK9, hD9⟩, hS.F ht⟩) hS.2.2 dX8_lot_79
  refine lv_if_eq (tgt := 58) hx hb dX8_lot_17 (by decide) (fun c_14 => absurd c_14 (by decide)) (fun c_14 => ?_)
  refine lv_iload_n hx hb dX8_lot_20 rfl (lv_at hl 3 rfl) ?_
  refine lv_bipush (v := 100) hx hb dX8_lot_21 (by decide) ?_
  refine lv_sipush (v := 300) hx hb dX8_lot_23 (by decide) ?_
  refine vp_callSi (W.runS (As := [.int a3, .int 100, .int 300]) (rest := []) ⟨hx, hb, hml, hown, hts⟩ (s_X8_isIn l a3 100 300) (va_cwS 3 hts gX8_lot_X8_isIn rfl rfl rfl (by decide +kernel) ⟨Nat.le_of_ble_eq_true rfl, Nat.le_of_ble_eq_true rfl⟩) ⟨fun a U g mk q => q, fun U hU hW => ⟨rfl, trivial⟩⟩ rfl rfl hl.1 rfl (lv_room (Nat.le_of_ble_eq_true rfl)) dX8_lot_26 ⟨Nat.le_of_ble_eq_true rfl, Nat.le_of_ble_eq_true rfl⟩) (fun r_15 k_16 => ?_)
  rcases k_16 with ⟨rfl, a_17o⟩ | ⟨rfl, a_17, b_18⟩
  · refine lv_if_eq (tgt := 58) hx hb dX8_lot_29 (by decide) (fun c_19 => ?_) (fun c_19 => absurd (by decide) c_19)
    refine lv_iconst (v := 0) hx hb dX8_lot_58 (by decide) ?_
    refine lv_istore (lv' := [(6, .int 0), (0, .ref h0), (1, .int a1), (2, .int a2), (3, .int a3), (4, .int a4), (5, .int a5)]) hx hb dX8_lot_59 hl (by decide) rfl (fun ls hl => ?_)
    refine lv_iload hx hb dX8_lot_61 (lv_at hl 0 rfl) ?_
    refine lv_if_eq (tgt := 78) hx hb dX8_lot_63 (by decide) (fun c_20 => ?_) (fun c_20 => absurd (by decide) c_20)
    refine lv_iconst (v := (-1)) hx hb dX8_lot_78 (by decide) ?_
    have hP9 := hP.sub (ws' := []) [] rfl
    have hD9 := hD.sub (ws' := []) [] (by decide) rfl
    have hK9 := hK.sub (tys' := []) [] rfl
    refine W.widen (k := 6) (n := 30) (by omega) (by omega) ?_
    exact W.iret (v := (-1)) hx hb hr (fun t ht hW => ⟨⟨(-1), (), rfl, (by rcases a_17o with a_17o | a_17o <;> simp_all), by rw [ht]; exact hP9, va_K.moved hW.alike hK9, hD9⟩, hS.F ht⟩) hS.2.2 dX8_lot_79
  refine lv_if_eq (tgt := 58) hx hb dX8_lot_29 (by decide) (fun c_21 => absurd c_21 (by decide)) (fun c_21 => ?_)
  refine lv_iload hx hb dX8_lot_32 (lv_at hl 4 rfl) ?_
  refine lv_iconst (v := 0) hx hb dX8_lot_34 (by decide) ?_
  refine lv_sipush (v := 140) hx hb dX8_lot_35 (by decide) ?_
  refine vp_callSi (W.runS (As := [.int a4, .int 0, .int 140]) (rest := []) ⟨hx, hb, hml, hown, hts⟩ (s_X8_isIn l a4 0 140) (va_cwS 3 hts gX8_lot_X8_isIn rfl rfl rfl (by decide +kernel) ⟨Nat.le_of_ble_eq_true rfl, Nat.le_of_ble_eq_true rfl⟩) ⟨fun a U g mk q => q, fun U hU hW => ⟨rfl, trivial⟩⟩ rfl rfl hl.1 rfl (lv_room (Nat.le_of_ble_eq_true rfl)) dX8_lot_38 ⟨Nat.le_of_ble_eq_true rfl, Nat.le_of_ble_eq_true rfl⟩) (fun r_22 k_23 => ?_)
  rcases k_23 with ⟨rfl, a_24o⟩ | ⟨rfl, a_24, b_25⟩
  · refine lv_if_eq (tgt := 58) hx hb dX8_lot_41 (by decide) (fun c_26 => ?_) (fun c_26 => absurd (by decide) c_26)
    refine lv_iconst (v := 0) hx hb dX8_lot_58 (by decide) ?_
    refine lv_istore (lv' := [(6, .int 0), (0, .ref h0), (1, .int a1), (2, .int a2), (3, .int a3), (4, .int a4), (5, .int a5)]) hx hb dX8_lot_59 hl (by decide) rfl (fun ls hl => ?_)
    refine lv_iload hx hb dX8_lot_61 (lv_at hl 0 rfl) ?_
    refine lv_if_eq (tgt := 78) hx hb dX8_lot_63 (by decide) (fun c_27 => ?_) (fun c_27 => absurd (by decide) c_27)
    refine lv_iconst (v := (-1)) hx hb dX8_lot_78 (by decide) ?_
    have hP9 := hP.sub (ws' := []) [] rfl
    have hD9 := hD.sub (ws' := []) [] (by decide) rfl
    have hK9 := hK.sub (tys' := []) [] rfl
    refine W.widen (k := 6) (n := 30) (by omega) (by omega) ?_
    exact W.iret (v := (-1)) hx hb hr (fun t ht hW => ⟨⟨(-1), (), rfl, (by rcases a_24o with a_24o | a_24o <;> simp_all), by rw [ht]; exact hP9, va_K.moved hW.alike hK9, hD9⟩, hS.F ht⟩) hS.2.2 dX8_lot_79
  refine lv_if_eq (tgt := 58) hx hb dX8_lot_41 (by decide) (fun c_28 => absurd c_28 (by decide)) (fun c_28 => ?_)
  refine lv_iload hx hb dX8_lot_44 (lv_at hl 5 rfl) ?_
  refine lv_iconst (v := 0) hx hb dX8_lot_46 (by decide) ?_
  refine lv_iconst (v := 3) hx hb dX8_lot_47 (by decide) ?_
  refine vp_callSi (W.runS (As := [.int a5, .int 0, .int 3]) (rest := []) ⟨hx, hb, hml, hown, hts⟩ (s_X8_isIn l a5 0 3) (va_cwS 3 hts gX8_lot_X8_isIn rfl rfl rfl (by decide +kernel) ⟨Nat.le_of_ble_eq_true rfl, Nat.le_of_ble_eq_true rfl⟩) ⟨fun a U g mk q => q, fun U hU hW => ⟨rfl, trivial⟩⟩ rfl rfl hl.1 rfl (lv_room (Nat.le_of_ble_eq_true rfl)) dX8_lot_48 ⟨Nat.le_of_ble_eq_true rfl, Nat.le_of_ble_eq_true rfl⟩) (fun r_29 k_30 => ?_)
  rcases k_30 with ⟨rfl, a_31o⟩ | ⟨rfl, a_31, b_32⟩
  · refine lv_if_eq (tgt := 58) hx hb dX8_lot_51 (by decide) (fun c_33 => ?_) (fun c_33 => absurd (by decide) c_33)
    refine lv_iconst (v := 0) hx hb dX8_lot_58 (by decide) ?_
    refine lv_istore (lv' := [(6, .int 0), (0, .ref h0), (1, .int a1), (2, .int a2), (3, .int a3), (4, .int a4), (5, .int a5)]) hx hb dX8_lot_59 hl (by decide) rfl (fun ls hl => ?_)
    refine lv_iload hx hb dX8_lot_61 (lv_at hl 0 rfl) ?_
    refine lv_if_eq (tgt := 78) hx hb dX8_lot_63 (by decide) (fun c_34 => ?_) (fun c_34 => absurd (by decide) c_34)
    refine lv_iconst (v := (-1)) hx hb dX8_lot_78 (by decide) ?_
    have hP9 := hP.sub (ws' := []) [] rfl
    have hD9 := hD.sub (ws' := []) [] (by decide) rfl
    have hK9 := hK.sub (tys' := []) [] rfl
    refine W.widen (k := 6) (n := 30) (by omega) (by omega) ?_
    exact W.iret (v := (-1)) hx hb hr (fun t ht hW => ⟨⟨(-1), (), rfl, (by rcases a_31o with a_31o | a_31o <;> simp_all), by rw [ht]; exact hP9, va_K.moved hW.alike hK9, hD9⟩, hS.F ht⟩) hS.2.2 dX8_lot_79
  refine lv_if_eq (tgt := 58) hx hb dX8_lot_51 (by decide) (fun c_35 => absurd c_35 (by decide)) (fun c_35 => ?_)
  refine lv_iconst (v := 1) hx hb dX8_lot_54 (by decide) ?_
  refine lv_goto (tgt := 59) hx hb dX8_lot_55 (by decide) ?_
  refine lv_istore (lv' := [(6, .int 1), (0, .ref h0), (1, .int a1), (2, .int a2), (3, .int a3), (4, .int a4), (5, .int a5)]) hx hb dX8_lot_59 hl (by decide) rfl (fun ls hl => ?_)
  refine lv_iload hx hb dX8_lot_61 (lv_at hl 0 rfl) ?_
  refine lv_if_eq (tgt := 78) hx hb dX8_lot_63 (by decide) (fun c_36 => absurd c_36 (by decide)) (fun c_36 => ?_)
  refine lv_aload_n hx hb dX8_lot_66 rfl (lv_at hl 1 rfl) ?_
  refine va_get (D := D) (ci := 8) (v := .int 0) (C := RX8) (T := TX8) (N := 15) hx hb hts hin8 hown hK hP 0 rfl rfl 10 (by decide) (hts (.fieldLink RX8 90 "HoneyHouse" "lotCount" "I") (List.mem_of_getElem? (i := 2) rfl)) (fun _ h9 => h9) rfl dX8_lot_67 ?_
  refine lv_aload_n hx hb dX8_lot_70 rfl (lv_at hl 1 rfl) ?_
  refine va_get (D := D) (ci := 8) (v := .ref la) (C := RX8) (T := TX8) (N := 15) hx hb hts hin8 hown hK hP 0 rfl rfl 0 (by decide) (hts (.fieldLink RX8 11 "HoneyHouse" "lots" "[LHoneyHouse$Lot;") (List.mem_of_getElem? (i := 3) rfl)) (fun _ h9 => h9) rfl dX8_lot_71 ?_
  refine va_alen (v := 40) hx hb hK hP 1 0 rfl rfl rfl dX8_lot_74 ?_
  refine lv_icmp_lt (tgt := 80) hx hb dX8_lot_75 (by decide) (fun c_37 => ?_) (fun c_37 => absurd (by decide) c_37)
  refine lv_aload_n hx hb dX8_lot_80 rfl (lv_at hl 1 rfl) ?_
  refine va_get (D := D) (ci := 8) (v := .ref la) (C := RX8) (T := TX8) (N := 15) hx hb hts hin8 hown hK hP 0 rfl rfl 0 (by decide) (hts (.fieldLink RX8 11 "HoneyHouse" "lots" "[LHoneyHouse$Lot;") (List.mem_of_getElem? (i := 3) rfl)) (fun _ h9 => h9) rfl dX8_lot_81 ?_
  refine lv_aload_n hx hb dX8_lot_84 rfl (lv_at hl 1 rfl) ?_
  refine va_get (D := D) (ci := 8) (v := .int 0) (C := RX8) (T := TX8) (N := 15) hx hb hts hin8 hown hK hP 0 rfl rfl 10 (by decide) (hts (.fieldLink RX8 90 "HoneyHouse" "lotCount" "I") (List.mem_of_getElem? (i := 2) rfl)) (fun _ h9 => h9) rfl dX8_lot_85 ?_
  refine va_new (ci := 2) (fs := [.int 0, .int 0, .int 0, .int 0, .null, .null, .null, .int 0, .int 0, .int 0]) (C := RX2) (T := TX2) (N := 10) hx hb hts hin2 tyX2 tyX2_ok hown (hts (.classLink RX8 9 RX2) (List.mem_of_getElem? (i := 4) rfl)) (hts (.instantiable RX2 10) (List.mem_of_getElem? (i := 5) rfl)) (hts (.initialized RX2) (List.mem_of_getElem? (i := 6) rfl)) hK hP hD hS hA rfl (fun j hj => by rcases (show j = 0 ∨ j = 1 ∨ j = 2 ∨ j = 3 ∨ j = 4 ∨ j = 5 ∨ j = 6 ∨ j = 7 ∨ j = 8 ∨ j = 9 by omega) with rfl | rfl | rfl | rfl | rfl | rfl | rfl | rfl | rfl | rfl <;> rfl) (Nat.le_of_ble_eq_true rfl) (Nat.le_of_ble_eq_true rfl) dX8_lot_88 (fun q_38 H hP hD hS => ?_)
  have hP : va_P D vwCl [(h0, .inr (8, [.ref la, .ref ta, .ref ba, .ref ra, .ref sn, .ref rd, .ref dr, .ref bl, .ref vd, .ref fb, .int 0, .int 0, .int 0, .int 0, .int 0])), (la, .inl (c1, 40, .inr (.inr (.inr (.inr (fun _ => none)))))), (sn, .inr (5, [.ref sw, .ref sp])), (sw, .inl (z1, 4, .inl (fun _ => 0))), (sp, .inl (z2, 4, .inl (fun _ => 0))), (q_38, .inr (2, [.int 0, .int 0, .int 0, .int 0, .null, .null, .null, .int 0, .int 0, .int 0]))] H := hP
  have hD : va_D A [(h0, .inr (8, [.ref la, .ref ta, .ref ba, .ref ra, .ref sn, .ref rd, .ref dr, .ref bl, .ref vd, .ref fb, .int 0, .int 0, .int 0, .int 0, .int 0])), (la, .inl (c1, 40, .inr (.inr (.inr (.inr (fun _ => none)))))), (sn, .inr (5, [.ref sw, .ref sp])), (sw, .inl (z1, 4, .inl (fun _ => 0))), (sp, .inl (z2, 4, .inl (fun _ => 0))), (q_38, .inr (2, [.int 0, .int 0, .int 0, .int 0, .null, .null, .null, .int 0, .int 0, .int 0]))] := hD
  refine W.widen (k := 1) (n := 10) (by omega) (by omega) ?_
  refine lv_dup hx hb dX8_lot_91 rfl ?_
  refine lv_iload_n hx hb dX8_lot_92 rfl (lv_at hl 2 rfl) ?_
  refine lv_iload_n hx hb dX8_lot_93 rfl (lv_at hl 3 rfl) ?_
  refine lv_iload_n hx hb dX8_lot_94 rfl (lv_at hl 4 rfl) ?_
  refine lv_iload hx hb dX8_lot_95 (lv_at hl 5 rfl) ?_
  refine lv_iload hx hb dX8_lot_97 (lv_at hl 6 rfl) ?_
  refine lv_aload_n hx hb dX8_lot_99 rfl (lv_at hl 1 rfl) ?_
  refine va_get (D := D) (ci := 8) (v := .ref sn) (C := RX8) (T := TX8) (N := 15) hx hb hts hin8 hown hK hP 0 rfl rfl 4 (by decide) (hts (.fieldLink RX8 33 "HoneyHouse" "stepsNow" "LHoneyHouse$Steps;") (List.mem_of_getElem? (i := 7) rfl)) (fun _ h9 => h9) rfl dX8_lot_100 ?_
  have hPc := hP.sub (ws' := [(q_38, .inr (2, [.int 0, .int 0, .int 0, .int 0, .null, .null, .null, .int 0, .int 0, .int 0])), (sn, .inr (5, [.ref sw, .ref sp])), (sw, .inl (z1, 4, .inl (fun _ => 0))), (sp, .inl (z2, 4, .inl (fun _ => 0)))]) [5, 2, 3, 4] rfl
  have hDc := hD.sub (ws' := [(q_38, .inr (2, [.int 0, .int 0, .int 0, .int 0, .null, .null, .null, .int 0, .int 0, .int 0])), (sn, .inr (5, [.ref sw, .ref sp])), (sw, .inl (z1, 4, .inl (fun _ => 0))), (sp, .inl (z2, 4, .inl (fun _ => 0)))]) [5, 2, 3, 4] (by decide) rfl
  have hKc := hK.sub (tys' := [(z1, .int), (z2, .int)]) [1, 2] rfl
  have hFc := va_free (wc := [(q_38, .inr (2, [.int 0, .int 0, .int 0, .int 0, .null, .null, .null, .int 0, .int 0, .int 0])), (sn, .inr (5, [.ref sw, .ref sp])), (sw, .inl (z1, 4, .inl (fun _ => 0))), (sp, .inl (z2, 4, .inl (fun _ => 0)))]) hD hS hA [5, 2, 3, 4] rfl
  refine va_callv (va_runI (As := [.int a1, .int a2, .int a3, .int a4, .int a5, .ref sn]) (rest := [.ref q_38, .int 0, .ref la]) ⟨hx, hb, hml, hown, hts⟩ (q_X2_init l D q_38 sn sw sp z1 z2 (fun _ => 0) (fun _ => 0) a1 a2 a3 a4 a5 H.size) (cwI 6 hts gX8_lot_X2_init rfl rfl rfl (hts (.initialized RX2) (List.mem_of_getElem? (i := 6) rfl)) (hts (.methodLink RX8 93 yX2_init) (List.mem_of_getElem? (i := 12) rfl)) (hts (.instanceMethod yX2_init) (List.mem_of_getElem? (i := 13) rfl)) rfl (by decide +kernel) ⟨Nat.le_of_ble_eq_true rfl, Nat.le_of_ble_eq_true rfl⟩) ⟨fun a U g mk q => by obtain ⟨q0, q1, qP, qK, qD, q4⟩ := q; exact ⟨q0, q1, qP, va_K.moved (u := U) (U := U.calling g mk a) (Vm.Alike.refl U.vm) qK, qD, va_Nw.same rfl rfl q4⟩, fun U hU hW => ⟨rfl, by rw [hU], by rw [hU]; exact hPc, va_K.moved hW.alike hKc, hDc.weaken (fun _ _ _ _ => trivial), va_Nw.warmM hW hn20⟩⟩ rfl rfl hl.1 rfl (lv_room (Nat.le_of_ble_eq_true rfl)) dX8_lot_103 ⟨Nat.le_of_ble_eq_true rfl, Nat.le_of_ble_eq_true rfl⟩) hS (fun q _ h => hFc q h) hFc (fun u t H1 locs ht hvm w_40 hB hz1 hk1 hS => ?_)
  obtain ⟨vs_41, hP1, hK1, hD1⟩ := hB
  rw [ht] at hP1
  have hK1 := va_K.moved hvm.symm hK1
  obtain ⟨hP, hD⟩ := va_join (wr := [(h0, .inr (8, [.ref la, .ref ta, .ref ba, .ref ra, .ref sn, .ref rd, .ref dr, .ref bl, .ref vd, .ref fb, .int 0, .int 0, .int 0, .int 0, .int 0])), (la, .inl (c1, 40, .inr (.inr (.inr (.inr (fun _ => none))))))]) (w1 := [(q_38, .inr (2, vs_41))]) hP hD [5, 2, 3, 4] [0, 1] rfl rfl (by decide) (by decide) hk1 hFc hP1 hD1
  have hK := hK.app hK1
  generalize H1 = H at hP hS ⊢
  have hP : va_P D vwCl [(h0, .inr (8, [.ref la, .ref ta, .ref ba, .ref ra, .ref sn, .ref rd, .ref dr, .ref bl, .ref vd, .ref fb, .int 0, .int 0, .int 0, .int 0, .int 0])), (la, .inl (c1, 40, .inr (.inr (.inr (.inr (fun _ => none)))))), (q_38, .inr (2, vs_41))] H := hP
  have hD : va_D A [(h0, .inr (8, [.ref la, .ref ta, .ref ba, .ref ra, .ref sn, .ref rd, .ref dr, .ref bl, .ref vd, .ref fb, .int 0, .int 0, .int 0, .int 0, .int 0])), (la, .inl (c1, 40, .inr (.inr (.inr (.inr (fun _ => none)))))), (q_38, .inr (2, vs_41))] := hD
  have hK : va_K D vwCl [(c1, .object RX2), (z1, .int), (z2, .int)] s := hK
  refine W.widen (k := 6) (n := 30) (by omega) (by omega) ?_
  refine va_astq (f := fun _ => none) (n := 40) (r := (RX2, TX2, 10)) hx hb hK hP hD hS 1 0 2 2 rfl rfl rfl rfl (vp_in_iff.mpr (by decide)) dX8_lot_106 (fun H locs hP hD hS => ?_)
  have hP : va_P D vwCl [(h0, .inr (8, [.ref la, .ref ta, .ref ba, .ref ra, .ref sn, .ref rd, .ref dr, .ref bl, .ref vd, .ref fb, .int 0, .int 0, .int 0, .int 0, .int 0])), (la, .inl (c1, 40, .inr (.inr (.inr (.inr (va_up (fun _ => none) 0 (some q_38))))))), (q_38, .inr (2, vs_41))] H := hP
  have hD : va_D A [(h0, .inr (8, [.ref la, .ref ta, .ref ba, .ref ra, .ref sn, .ref rd, .ref dr, .ref bl, .ref vd, .ref fb, .int 0, .int 0, .int 0, .int 0, .int 0])), (la, .inl (c1, 40, .inr (.inr (.inr (.inr (va_up (fun _ => none) 0 (some q_38))))))), (q_38, .inr (2, vs_41))] := hD
  refine lv_aload_n hx hb dX8_lot_107 rfl (lv_at hl 1 rfl) ?_
  refine lv_dup hx hb dX8_lot_108 rfl ?_
  refine va_get (D := D) (ci := 8) (v := .int 0) (C := RX8) (T := TX8) (N := 15) hx hb hts hin8 hown hK hP 0 rfl rfl 10 (by decide) (hts (.fieldLink RX8 90 "HoneyHouse" "lotCount" "I") (List.mem_of_getElem? (i := 2) rfl)) (fun _ h9 => h9) rfl dX8_lot_109 ?_
  refine lv_iconst (v := 1) hx hb dX8_lot_112 (by decide) ?_
  refine lv_iadd hx hb dX8_lot_113 ?_
  refine tp_i (y := 1) (by decide) ?_
  refine va_put (D := D) (ci := 8) (v := .int 1) (ty := .int) (C := RX8) (T := TX8) (N := 15) hx hb hts hin8 tyX8 tyX8_ok nmX8 hown hK hP hD hS 0 rfl rfl 10 (by decide) (hts (.fieldLink RX8 90 "HoneyHouse" "lotCount" "I") (List.mem_of_getElem? (i := 2) rfl)) (fun _ h9 => h9) rfl (tyX8_ok 10 (by decide)) rfl rfl (Nat.le_of_ble_eq_true rfl) dX8_lot_114 (fun H locs hP hD hS => ?_)
  have hP : va_P D vwCl [(h0, .inr (8, [.ref la, .ref ta, .ref ba, .ref ra, .ref sn, .ref rd, .ref dr, .ref bl, .ref vd, .ref fb, .int 1, .int 0, .int 0, .int 0, .int 0])), (la, .inl (c1, 40, .inr (.inr (.inr (.inr (va_up (fun _ => none) 0 (some q_38))))))), (q_38, .inr (2, vs_41))] H := hP
  have hD : va_D A [(h0, .inr (8, [.ref la, .ref ta, .ref ba, .ref ra, .ref sn, .ref rd, .ref dr, .ref bl, .ref vd, .ref fb, .int 1, .int 0, .int 0, .int 0, .int 0])), (la, .inl (c1, 40, .inr (.inr (.inr (.inr (va_up (fun _ => none) 0 (some q_38))))))), (q_38, .inr (2, vs_41))] := hD
  refine lv_aload_n hx hb dX8_lot_117 rfl (lv_at hl 1 rfl) ?_
  refine va_get (D := D) (ci := 8) (v := .int 1) (C := RX8) (T := TX8) (N := 15) hx hb hts hin8 hown hK hP 0 rfl rfl 10 (by decide) (hts (.fieldLink RX8 90 "HoneyHouse" "lotCount" "I") (List.mem_of_getElem? (i := 2) rfl)) (fun _ h9 => h9) rfl dX8_lot_118 ?_
  refine lv_iconst (v := 1) hx hb dX8_lot_121 (by decide) ?_
  refine lv_isub hx hb dX8_lot_122 ?_
  refine tp_i (y := 0) (by decide) ?_
  have hP9 := hP.sub (ws' := []) [] rfl
  have hD9 := hD.sub (ws' := []) [] (by decide) rfl
  have hK9 := hK.sub (tys' := []) [] rfl
  refine W.widen (k := 6) (n := 30) (by omega) (by omega) ?_
  exact W.iret (v := 0) hx hb hr (fun t ht hW => ⟨⟨0, (), rfl, (by first | rfl | (simp_all; done) | simp [a_3, b_4, c_7, a_10, b_11, c_14, a_17, b_18, c_21, a_24, b_25, c_28, a_31, b_32, c_35, c_36, c_37]), by rw [ht]; exact hP9, va_K.moved hW.alike hK9, hD9⟩, hS.F ht⟩) hS.2.2 dX8_lot_123
