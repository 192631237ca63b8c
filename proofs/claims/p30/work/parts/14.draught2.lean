theorem dX1_shareOut_0 : decode cX1_shareOut 0 = .ok (.aload_n 0, 1) := by decide +kernel
theorem dX1_shareOut_1 : decode cX1_shareOut 1 = .ok (.getfield 9, 3) := by decide +kernel
theorem dX1_shareOut_4 : decode cX1_shareOut 4 = .ok (.iconst 0, 1) := by decide +kernel
theorem dX1_shareOut_5 : decode cX1_shareOut 5 = .ok (.invokestatic 42, 3) := by decide +kernel
theorem dX1_shareOut_8 : decode cX1_shareOut 8 = .ok (.aload_n 1, 1) := by decide +kernel
theorem dX1_shareOut_9 : decode cX1_shareOut 9 = .ok (.getfield 29, 3) := by decide +kernel
theorem dX1_shareOut_12 : decode cX1_shareOut 12 = .ok (.ifCond .gt 4, 3) := by decide +kernel
theorem dX1_shareOut_16 : decode cX1_shareOut 16 = .ok (.iload_n 2, 1) := by decide +kernel
theorem dX1_shareOut_17 : decode cX1_shareOut 17 = .ok (.istore_n 3, 1) := by decide +kernel
theorem dX1_shareOut_18 : decode cX1_shareOut 18 = .ok (.iconst 0, 1) := by decide +kernel
theorem dX1_shareOut_19 : decode cX1_shareOut 19 = .ok (.istore 4, 2) := by decide +kernel
theorem dX1_shareOut_21 : decode cX1_shareOut 21 = .ok (.iload 4, 2) := by decide +kernel
theorem dX1_shareOut_23 : decode cX1_shareOut 23 = .ok (.aload_n 0, 1) := by decide +kernel
theorem dX1_shareOut_24 : decode cX1_shareOut 24 = .ok (.getfield 9, 3) := by decide +kernel
theorem dX1_shareOut_27 : decode cX1_shareOut 27 = .ok (.arraylength, 1) := by decide +kernel
theorem dX1_shareOut_28 : decode cX1_shareOut 28 = .ok (.if_icmp .ge 62, 3) := by decide +kernel
theorem dX1_shareOut_31 : decode cX1_shareOut 31 = .ok (.iload_n 2, 1) := by decide +kernel
theorem dX1_shareOut_32 : decode cX1_shareOut 32 = .ok (.i2l, 1) := by decide +kernel
theorem dX1_shareOut_33 : decode cX1_shareOut 33 = .ok (.aload_n 1, 1) := by decide +kernel
theorem dX1_shareOut_34 : decode cX1_shareOut 34 = .ok (.iload 4, 2) := by decide +kernel
theorem dX1_shareOut_36 : decode cX1_shareOut 36 = .ok (.invokevirtual 48, 3) := by decide +kernel
theorem dX1_shareOut_39 : decode cX1_shareOut 39 = .ok (.i2l, 1) := by decide +kernel
theorem dX1_shareOut_40 : decode cX1_shareOut 40 = .ok (.lmul, 1) := by decide +kernel
theorem dX1_shareOut_41 : decode cX1_shareOut 41 = .ok (.lstore 5, 2) := by decide +kernel
theorem dX1_shareOut_43 : decode cX1_shareOut 43 = .ok (.aload_n 0, 1) := by decide +kernel
theorem dX1_shareOut_44 : decode cX1_shareOut 44 = .ok (.getfield 9, 3) := by decide +kernel
theorem dX1_shareOut_47 : decode cX1_shareOut 47 = .ok (.iload 4, 2) := by decide +kernel
theorem dX1_shareOut_49 : decode cX1_shareOut 49 = .ok (.lload 5, 2) := by decide +kernel
theorem dX1_shareOut_51 : decode cX1_shareOut 51 = .ok (.aload_n 1, 1) := by decide +kernel
theorem dX1_shareOut_52 : decode cX1_shareOut 52 = .ok (.getfield 29, 3) := by decide +kernel
theorem dX1_shareOut_55 : decode cX1_shareOut 55 = .ok (.i2l, 1) := by decide +kernel
theorem dX1_shareOut_56 : decode cX1_shareOut 56 = .ok (.ldiv, 1) := by decide +kernel
theorem dX1_shareOut_57 : decode cX1_shareOut 57 = .ok (.l2i, 1) := by decide +kernel
theorem dX1_shareOut_58 : decode cX1_shareOut 58 = .ok (.iastore, 1) := by decide +kernel
theorem dX1_shareOut_59 : decode cX1_shareOut 59 = .ok (.aload_n 0, 1) := by decide +kernel
theorem dX1_shareOut_60 : decode cX1_shareOut 60 = .ok (.getfield 15, 3) := by decide +kernel
theorem dX1_shareOut_63 : decode cX1_shareOut 63 = .ok (.iload 4, 2) := by decide +kernel
theorem dX1_shareOut_65 : decode cX1_shareOut 65 = .ok (.lload 5, 2) := by decide +kernel
theorem dX1_shareOut_67 : decode cX1_shareOut 67 = .ok (.aload_n 1, 1) := by decide +kernel
theorem dX1_shareOut_68 : decode cX1_shareOut 68 = .ok (.getfield 29, 3) := by decide +kernel
theorem dX1_shareOut_71 : decode cX1_shareOut 71 = .ok (.i2l, 1) := by decide +kernel
theorem dX1_shareOut_72 : decode cX1_shareOut 72 = .ok (.lrem, 1) := by decide +kernel
theorem dX1_shareOut_73 : decode cX1_shareOut 73 = .ok (.lastore, 1) := by decide +kernel
theorem dX1_shareOut_74 : decode cX1_shareOut 74 = .ok (.iload_n 3, 1) := by decide +kernel
theorem dX1_shareOut_75 : decode cX1_shareOut 75 = .ok (.aload_n 0, 1) := by decide +kernel
theorem dX1_shareOut_76 : decode cX1_shareOut 76 = .ok (.getfield 9, 3) := by decide +kernel
theorem dX1_shareOut_79 : decode cX1_shareOut 79 = .ok (.iload 4, 2) := by decide +kernel
theorem dX1_shareOut_81 : decode cX1_shareOut 81 = .ok (.iaload, 1) := by decide +kernel
theorem dX1_shareOut_82 : decode cX1_shareOut 82 = .ok (.isub, 1) := by decide +kernel
theorem dX1_shareOut_83 : decode cX1_shareOut 83 = .ok (.istore_n 3, 1) := by decide +kernel
theorem dX1_shareOut_84 : decode cX1_shareOut 84 = .ok (.iinc 4 1, 3) := by decide +kernel
theorem dX1_shareOut_87 : decode cX1_shareOut 87 = .ok (.goto (-66), 3) := by decide +kernel
theorem dX1_shareOut_90 : decode cX1_shareOut 90 = .ok (.iconst 0, 1) := by decide +kernel
theorem dX1_shareOut_91 : decode cX1_shareOut 91 = .ok (.istore 4, 2) := by decide +kernel
theorem dX1_shareOut_93 : decode cX1_shareOut 93 = .ok (.iload 4, 2) := by decide +kernel
theorem dX1_shareOut_95 : decode cX1_shareOut 95 = .ok (.aload_n 0, 1) := by decide +kernel
theorem dX1_shareOut_96 : decode cX1_shareOut 96 = .ok (.getfield 15, 3) := by decide +kernel
theorem dX1_shareOut_99 : decode cX1_shareOut 99 = .ok (.arraylength, 1) := by decide +kernel
theorem dX1_shareOut_100 : decode cX1_shareOut 100 = .ok (.if_icmp .ge 42, 3) := by decide +kernel
theorem dX1_shareOut_103 : decode cX1_shareOut 103 = .ok (.iload 4, 2) := by decide +kernel
theorem dX1_shareOut_105 : decode cX1_shareOut 105 = .ok (.iload_n 3, 1) := by decide +kernel
theorem dX1_shareOut_106 : decode cX1_shareOut 106 = .ok (.if_icmp .ge 36, 3) := by decide +kernel
theorem dX1_shareOut_109 : decode cX1_shareOut 109 = .ok (.aload_n 0, 1) := by decide +kernel
theorem dX1_shareOut_110 : decode cX1_shareOut 110 = .ok (.invokevirtual 52, 3) := by decide +kernel
theorem dX1_shareOut_113 : decode cX1_shareOut 113 = .ok (.istore 5, 2) := by decide +kernel
theorem dX1_shareOut_115 : decode cX1_shareOut 115 = .ok (.aload_n 0, 1) := by decide +kernel
theorem dX1_shareOut_116 : decode cX1_shareOut 116 = .ok (.getfield 9, 3) := by decide +kernel
theorem dX1_shareOut_119 : decode cX1_shareOut 119 = .ok (.iload 5, 2) := by decide +kernel
theorem dX1_shareOut_121 : decode cX1_shareOut 121 = .ok (.dup2, 1) := by decide +kernel
theorem dX1_shareOut_122 : decode cX1_shareOut 122 = .ok (.iaload, 1) := by decide +kernel
theorem dX1_shareOut_123 : decode cX1_shareOut 123 = .ok (.iconst 1, 1) := by decide +kernel
theorem dX1_shareOut_124 : decode cX1_shareOut 124 = .ok (.iadd, 1) := by decide +kernel
theorem dX1_shareOut_125 : decode cX1_shareOut 125 = .ok (.iastore, 1) := by decide +kernel
theorem dX1_shareOut_126 : decode cX1_shareOut 126 = .ok (.aload_n 0, 1) := by decide +kernel
theorem dX1_shareOut_127 : decode cX1_shareOut 127 = .ok (.getfield 15, 3) := by decide +kernel
theorem dX1_shareOut_130 : decode cX1_shareOut 130 = .ok (.iload 5, 2) := by decide +kernel
theorem dX1_shareOut_132 : decode cX1_shareOut 132 = .ok (.ldc2_w 56, 3) := by decide +kernel
theorem dX1_shareOut_135 : decode cX1_shareOut 135 = .ok (.lastore, 1) := by decide +kernel
theorem dX1_shareOut_136 : decode cX1_shareOut 136 = .ok (.iinc 4 1, 3) := by decide +kernel
theorem dX1_shareOut_139 : decode cX1_shareOut 139 = .ok (.goto (-46), 3) := by decide +kernel
theorem dX1_shareOut_142 : decode cX1_shareOut 142 = .ok (.return_, 1) := by decide +kernel
theorem dX1_drawFrom_0 : decode cX1_drawFrom 0 = .ok (.aload_n 0, 1) := by decide +kernel
theorem dX1_drawFrom_1 : decode cX1_drawFrom 1 = .ok (.aload_n 1, 1) := by decide +kernel
theorem dX1_drawFrom_2 : decode cX1_drawFrom 2 = .ok (.iload_n 2, 1) := by decide +kernel
theorem dX1_drawFrom_3 : decode cX1_drawFrom 3 = .ok (.invokevirtual 19, 3) := by decide +kernel
theorem dX1_drawFrom_6 : decode cX1_drawFrom 6 = .ok (.iconst 0, 1) := by decide +kernel
theorem dX1_drawFrom_7 : decode cX1_drawFrom 7 = .ok (.istore_n 3, 1) := by decide +kernel
theorem dX1_drawFrom_8 : decode cX1_drawFrom 8 = .ok (.iload_n 3, 1) := by decide +kernel
theorem dX1_drawFrom_9 : decode cX1_drawFrom 9 = .ok (.aload_n 0, 1) := by decide +kernel
theorem dX1_drawFrom_10 : decode cX1_drawFrom 10 = .ok (.getfield 9, 3) := by decide +kernel
theorem dX1_drawFrom_13 : decode cX1_drawFrom 13 = .ok (.arraylength, 1) := by decide +kernel
theorem dX1_drawFrom_14 : decode cX1_drawFrom 14 = .ok (.if_icmp .ge 21, 3) := by decide +kernel
theorem dX1_drawFrom_17 : decode cX1_drawFrom 17 = .ok (.aload_n 1, 1) := by decide +kernel
theorem dX1_drawFrom_18 : decode cX1_drawFrom 18 = .ok (.iload_n 3, 1) := by decide +kernel
theorem dX1_drawFrom_19 : decode cX1_drawFrom 19 = .ok (.aload_n 0, 1) := by decide +kernel
theorem dX1_drawFrom_20 : decode cX1_drawFrom 20 = .ok (.getfield 9, 3) := by decide +kernel
theorem dX1_drawFrom_23 : decode cX1_drawFrom 23 = .ok (.iload_n 3, 1) := by decide +kernel
theorem dX1_drawFrom_24 : decode cX1_drawFrom 24 = .ok (.iaload, 1) := by decide +kernel
theorem dX1_drawFrom_25 : decode cX1_drawFrom 25 = .ok (.ineg, 1) := by decide +kernel
theorem dX1_drawFrom_26 : decode cX1_drawFrom 26 = .ok (.invokevirtual 23, 3) := by decide +kernel
theorem dX1_drawFrom_29 : decode cX1_drawFrom 29 = .ok (.iinc 3 1, 3) := by decide +kernel
theorem dX1_drawFrom_32 : decode cX1_drawFrom 32 = .ok (.goto (-24), 3) := by decide +kernel
theorem dX1_drawFrom_35 : decode cX1_drawFrom 35 = .ok (.aload_n 1, 1) := by decide +kernel
theorem dX1_drawFrom_36 : decode cX1_drawFrom 36 = .ok (.getfield 29, 3) := by decide +kernel
theorem dX1_drawFrom_39 : decode cX1_drawFrom 39 = .ok (.ifCond .ne 8, 3) := by decide +kernel
theorem dX1_drawFrom_42 : decode cX1_drawFrom 42 = .ok (.aload_n 1, 1) := by decide +kernel
theorem dX1_drawFrom_43 : decode cX1_drawFrom 43 = .ok (.iconst 0, 1) := by decide +kernel
theorem dX1_drawFrom_44 : decode cX1_drawFrom 44 = .ok (.putfield 33, 3) := by decide +kernel
theorem dX1_drawFrom_47 : decode cX1_drawFrom 47 = .ok (.return_, 1) := by decide +kernel
theorem dX1_fillInto_0 : decode cX1_fillInto 0 = .ok (.aload_n 1, 1) := by decide +kernel
theorem dX1_fillInto_1 : decode cX1_fillInto 1 = .ok (.aload_n 1, 1) := by decide +kernel
theorem dX1_fillInto_2 : decode cX1_fillInto 2 = .ok (.getfield 29, 3) := by decide +kernel
theorem dX1_fillInto_5 : decode cX1_fillInto 5 = .ok (.ifCond .ne 7, 3) := by decide +kernel
theorem dX1_fillInto_8 : decode cX1_fillInto 8 = .ok (.iload_n 2, 1) := by decide +kernel
theorem dX1_fillInto_9 : decode cX1_fillInto 9 = .ok (.goto 11, 3) := by decide +kernel
theorem dX1_fillInto_12 : decode cX1_fillInto 12 = .ok (.aload_n 1, 1) := by decide +kernel
theorem dX1_fillInto_13 : decode cX1_fillInto 13 = .ok (.getfield 33, 3) := by decide +kernel
theorem dX1_fillInto_16 : decode cX1_fillInto 16 = .ok (.iload_n 2, 1) := by decide +kernel
theorem dX1_fillInto_17 : decode cX1_fillInto 17 = .ok (.invokestatic 36, 3) := by decide +kernel
theorem dX1_fillInto_20 : decode cX1_fillInto 20 = .ok (.putfield 33, 3) := by decide +kernel
theorem dX1_fillInto_23 : decode cX1_fillInto 23 = .ok (.iconst 0, 1) := by decide +kernel
theorem dX1_fillInto_24 : decode cX1_fillInto 24 = .ok (.istore_n 3, 1) := by decide +kernel
theorem dX1_fillInto_25 : decode cX1_fillInto 25 = .ok (.iload_n 3, 1) := by decide +kernel
theorem dX1_fillInto_26 : decode cX1_fillInto 26 = .ok (.aload_n 0, 1) := by decide +kernel
theorem dX1_fillInto_27 : decode cX1_fillInto 27 = .ok (.getfield 9, 3) := by decide +kernel
theorem dX1_fillInto_30 : decode cX1_fillInto 30 = .ok (.arraylength, 1) := by decide +kernel
theorem dX1_fillInto_31 : decode cX1_fillInto 31 = .ok (.if_icmp .ge 20, 3) := by decide +kernel
theorem dX1_fillInto_34 : decode cX1_fillInto 34 = .ok (.aload_n 1, 1) := by decide +kernel
theorem dX1_fillInto_35 : decode cX1_fillInto 35 = .ok (.iload_n 3, 1) := by decide +kernel
theorem dX1_fillInto_36 : decode cX1_fillInto 36 = .ok (.aload_n 0, 1) := by decide +kernel
theorem dX1_fillInto_37 : decode cX1_fillInto 37 = .ok (.getfield 9, 3) := by decide +kernel
theorem dX1_fillInto_40 : decode cX1_fillInto 40 = .ok (.iload_n 3, 1) := by decide +kernel
theorem dX1_fillInto_41 : decode cX1_fillInto 41 = .ok (.iaload, 1) := by decide +kernel
theorem dX1_fillInto_42 : decode cX1_fillInto 42 = .ok (.invokevirtual 23, 3) := by decide +kernel
theorem dX1_fillInto_45 : decode cX1_fillInto 45 = .ok (.iinc 3 1, 3) := by decide +kernel
theorem dX1_fillInto_48 : decode cX1_fillInto 48 = .ok (.goto (-23), 3) := by decide +kernel
theorem dX1_fillInto_51 : decode cX1_fillInto 51 = .ok (.return_, 1) := by decide +kernel
set_option maxRecDepth 20000 in
theorem ggX1_shareOut_J7_fill_53178 : GoodIn wsX1_shareOut wsJ7_fill_53178 := goodIn_r _ [8] rfl (by decide +kernel)
set_option maxRecDepth 20000 in
theorem gX1_shareOut_J7_fill_53178 : GoodIn wsX1_shareOut (va_wsS RX1 42 yJ7_fill_53178 wsJ7_fill_53178) := goodIn_app (goodIn_of _ (by decide +kernel)) ggX1_shareOut_J7_fill_53178
set_option maxRecDepth 20000 in
theorem ggX1_shareOut_X1_greatestRest : GoodIn wsX1_shareOut wsX1_greatestRest := goodIn_r _ [19, 3, 20, 21] rfl (by decide +kernel)
set_option maxRecDepth 20000 in
theorem gX1_shareOut_X1_greatestRest : GoodIn wsX1_shareOut (wsV RX1 52 RX1 yX1_greatestRest wsX1_greatestRest) := goodIn_app (goodIn_of _ (by decide +kernel)) ggX1_shareOut_X1_greatestRest
set_option maxRecDepth 20000 in
theorem ggX1_shareOut_X7_gramsOf : GoodIn wsX1_shareOut wsX7_gramsOf := goodIn_r _ [13, 14, 22, 23, 24, 25, 26] rfl (by decide +kernel)
set_option maxRecDepth 20000 in
theorem gX1_shareOut_X7_gramsOf : GoodIn wsX1_shareOut (wsV RX1 48 RX7 yX7_gramsOf wsX7_gramsOf) := goodIn_app (goodIn_of _ (by decide +kernel)) ggX1_shareOut_X7_gramsOf
set_option maxRecDepth 20000 in
theorem ggX1_drawFrom_X1_shareOut : GoodIn wsX1_drawFrom wsX1_shareOut := goodIn_r _ [8, 1, 2, 9, 10, 11, 12, 13, 14, 15, 16, 17, 18, 19, 20, 21, 22, 23, 7, 24, 30, 31, 32, 33, 34, 35, 36] rfl (by decide +kernel)
set_option maxRecDepth 20000 in
theorem gX1_drawFrom_X1_shareOut : GoodIn wsX1_drawFrom (wsV RX1 19 RX1 yX1_shareOut wsX1_shareOut) := goodIn_app (goodIn_of _ (by decide +kernel)) ggX1_drawFrom_X1_shareOut
set_option maxRecDepth 20000 in
theorem ggX1_drawFrom_X7_addGrams : GoodIn wsX1_drawFrom wsX7_addGrams := goodIn_r _ [28, 20, 29, 32, 33, 34, 35, 36] rfl (by decide +kernel)
set_option maxRecDepth 20000 in
theorem gX1_drawFrom_X7_addGrams : GoodIn wsX1_drawFrom (wsV RX1 23 RX7 yX7_addGrams wsX7_addGrams) := goodIn_app (goodIn_of _ (by decide +kernel)) ggX1_drawFrom_X7_addGrams
set_option maxRecDepth 20000 in
theorem ggX1_fillInto_X7_addGrams : GoodIn wsX1_fillInto wsX7_addGrams := goodIn_r _ [12, 13, 14, 15, 16, 17, 18, 19] rfl (by decide +kernel)
set_option maxRecDepth 20000 in
theorem gX1_fillInto_X7_addGrams : GoodIn wsX1_fillInto (wsV RX1 23 RX7 yX7_addGrams wsX7_addGrams) := goodIn_app (goodIn_of _ (by decide +kernel)) ggX1_fillInto_X7_addGrams
theorem sh_s {f d : Nat → Int32} {q : Nat → Int64} {x : Int32} {T : Int64} {i j : Nat} (h : ∀ j : Nat, j < i → d j = shD x T (f j) ∧ q j = shR x T (f j)) (hj : j < i + 1) : upd d i (x.toInt64 * (f i).toInt64 / T).toInt32 j = shD x T (f j) ∧ vp_updL q i (x.toInt64 * (f i).toInt64 - x.toInt64 * (f i).toInt64 / T * T) j = shR x T (f j) := by
  rcases Nat.decEq j i with e | e
  · rw [upd_n e, pk_uLn e]; exact h j (by omega)
  · rw [e, upd_s, pk_uLs]; exact ⟨rfl, rfl⟩
theorem rn_s {d D : Nat → Int32} {q Q : Nat → Int64} {t b j : Nat} (h : ∀ j : Nat, j < 40 → d j = (rnd 40 D Q t).1 j ∧ q j = (rnd 40 D Q t).2 j) (eb : b = bst q 40) (hb : b < 40) (hj : j < 40) : upd d b (d b + 1) j = (rnd 40 D Q (t + 1)).1 j ∧ vp_updL q b (-1) j = (rnd 40 D Q (t + 1)).2 j := by
  have e : b = bst (rnd 40 D Q t).2 40 := eb.trans (bst_congr 40 (fun i hi => (h i hi).2))
  show upd d b (d b + 1) j = upd (rnd 40 D Q t).1 (bst (rnd 40 D Q t).2 40) ((rnd 40 D Q t).1 (bst (rnd 40 D Q t).2 40) + 1) j ∧ vp_updL q b (-1) j = vp_updL (rnd 40 D Q t).2 (bst (rnd 40 D Q t).2 40) (-1) j
  rw [← e]
  rcases Nat.decEq j b with g | g
  · rw [upd_n g, upd_n g, pk_uLn g, pk_uLn g]; exact h j hj
  · rw [g, upd_s, upd_s, pk_uLs, pk_uLs, (h b hb).1]; exact ⟨rfl, rfl⟩
set_option maxHeartbeats 4000000 in
set_option maxRecDepth 100000 in
theorem a_shareOut (l : Launch) (D : va_G) (ρ : Nat → Nat) (ws : va_W) (tys : List (ClassId × FieldType)) (d kd : Nat) (dg kdg : Nat) (cdg : ClassId) (tdg : Nat) (fd : Nat → Int32) (dq kdq : Nat) (cdq : ClassId) (tdq : Nat) (fq : Nat → Int64) (v kv : Nat) (vt vh vr vp : Int32) (g kg : Nat) (cg : ClassId) (tg : Nat) (f : Nat → Int32) (a2 : Int32) (L : Nat) (sz : Nat) (hvt : 0 < vt) (hL : lak a2 vt.toInt64 f 40 = nI L) (hL40 : L ≤ 40) (n1 : kg ≠ kdg) (ed : ws[kd]? = some (d, .inr (1, [.ref dg, .ref dq]))) (edg : ws[kdg]? = some (dg, .inl (cdg, 40, .inl fd))) (udg : tys[tdg]? = some (cdg, .int)) (edq : ws[kdq]? = some (dq, .inl (cdq, 40, .inr (.inl fq)))) (udq : tys[tdq]? = some (cdq, .long)) (ev : ws[kv]? = some (v, .inr (7, [.ref g, .int vt, .int vh, .int vr, .int vp]))) (eg : ws[kg]? = some (g, .inl (cg, 40, .inl f))) (ug : tys[tg]? = some (cg, .int)) (w_kdg : ρ kdg = 0) (w_kdq : ρ kdq = 0) : Met l yX1_shareOut wsX1_shareOut ({ frames := 1, cells := 0, slots := 0, locals := 23 }) (va_Pc [.ref d, .ref v, .int a2] (fun U => U.heap.size = sz ∧ va_P D vwCl ws U.heap ∧ va_K D vwCl tys U ∧ va_D (fun _ => True) ws)) (va_Qv (fun _ : Unit => True) (fun (_ : Unit) (t : State) => ∃ (ws' : va_W) (tys' : List (ClassId × FieldType)), sm ρ [] ws ws' ∧ tyx tys tys' ∧ va_P D vwCl ws' t.heap ∧ va_K D vwCl tys' t ∧ va_D (va_A ws sz) ws' ∧ (∃ d9 : Nat → Int32, ws'[kdg]? = some (dg, .inl (cdg, 40, .inl d9)) ∧ ∀ j9 : Nat, j9 < 40 → d9 j9 = (rnd 40 (fun i9 => shD a2 vt.toInt64 (f i9)) (fun i9 => shR a2 vt.toInt64 (f i9)) L).1 j9)) (va_A ws sz)) 0 0 (va_A ws sz) := by
  refine Met.ofW (cc := cX1_shareOut) (maxL := 7) (ret := none) (by decide) rfl ?_
  intro p e s m args below meth c s₁ B hml hv
  obtain ⟨rfl, hsz, hP, hK, hD0⟩ := hv
  have hx := B.exec
  have hb := B.bytes
  have hr := B.returns
  have hts := atoms_spec (ws := wsX1_shareOut) B.pre
  have hown : s.vm.findClass RX1 = some m.cls := findClass_of_methodNamed B.named
  have hlocks := B.notSynchronized
  subst hsz
  have hD := hD0.self (sz := s.heap.size)
  generalize hAe : va_A ws s.heap.size = A at hD ⊢
  have hA : ∀ q : Nat, s.heap.size ≤ q → A q := fun q h => by rw [← hAe]; exact Or.inr h
  have hS : va_S A s.heap s.heap [] := va_S.rf
  have hsm : sm ρ [] ws ws := sm.rf ws
  have htx : tyx tys tys := tyx.rf tys
  have hin1 : ∀ w ∈ u_ws RX1 TX1 2, w ∈ wsX1_shareOut := (fun _ h9 => List.mem_cons_of_mem _ (List.mem_append_left _ ((List.mem_append_right _ h9))))
  have hin7 : ∀ w ∈ u_ws RX7 TX7 5, w ∈ wsX1_shareOut := (fun _ h9 => List.mem_cons_of_mem _ ((List.mem_append_right _ h9)))
  have hl := lv_entry ([.ref d, .ref v, .int a2]) (n := 7) (Nat.le_of_ble_eq_true rfl)
  rw [lg_entry_eq]
  generalize (lg_sl ([.ref d, .ref v, .int a2]) ++ List.replicate (7 - (lg_sl ([.ref d, .ref v, .int a2])).length) Slot.unset).toArray = ls at hl ⊢
  have hl : lv_has ls 7 [(0, .ref d), (1, .ref v), (2, .int a2)] := hl
  refine lv_aload_n hx hb dX1_shareOut_0 rfl (lv_at hl 0 rfl) ?_
  refine va_get (D := D) (ci := 1) (v := .ref dg) (C := RX1) (T := TX1) (N := 2) hx hb hts hin1 hown hK hP kd ed rfl 0 (by decide) (hts (.fieldLink RX1 9 "HoneyHouse$Draught" "grams" "[I") (List.mem_of_getElem? (i := 1) rfl)) (fun _ h9 => h9) rfl dX1_shareOut_1 ?_
  refine lv_iconst (v := 0) hx hb dX1_shareOut_4 (by decide) ?_
  have hFc := free_all hD hS hA
  refine va_callv (va_runS (As := [.ref dg, .int 0]) (rest := []) ⟨hx, hb, hml, hown, hts⟩ (a_fill l D (rz [kdg]) ws tys dg kdg cdg tdg 40 fd 0 s.heap.size (by omega) edg udg (rz_in (by simp))) (va_cwS 2 hts gX1_shareOut_J7_fill_53178 rfl rfl rfl (by decide +kernel) ⟨Nat.le_of_ble_eq_true rfl, Nat.le_of_ble_eq_true rfl⟩) ⟨fun a U g mk q => by obtain ⟨q0, q1, qP, qK, qD⟩ := q; exact ⟨q0, q1, qP, va_K.moved (u := U) (U := U.calling g mk a) (Vm.Alike.refl U.vm) qK, qD⟩, fun U hU hW => ⟨rfl, by rw [hU], by rw [hU]; exact hP, va_K.moved hW.alike hK, hD.weaken (fun _ _ _ _ => trivial)⟩⟩ rfl rfl hl.1 rfl (lv_room (Nat.le_of_ble_eq_true rfl)) dX1_shareOut_5 ⟨Nat.le_of_ble_eq_true rfl, Nat.le_of_ble_eq_true rfl⟩) hS (fun q _ h => hFc q h) hFc (fun u t H1 locs ht hvm w_1 hB hz1 hk1 hS => ?_)
  obtain ⟨ws_2, ty_3, hm_4, ht_6, hP1, hK1, hD1, hx_5⟩ := hB
  rw [ht] at hP1
  have hK := va_K.moved hvm.symm hK1
  have hD := hD1.weaken (fun _ _ _ h => hFc _ h)
  generalize H1 = H at hP1 hS ⊢
  have hP := hP1
  have e_7 := hm_4.keep (rz_o1 (pl_ne ed edg (by intro h9; simp at h9))) ed
  have e_8 := hm_4.keep (rz_o1 (pl_ne edq edg (by intro h9; simp at h9))) edq
  have e_9 := hm_4.keep (rz_o1 (pl_ne ev edg (by intro h9; simp at h9))) ev
  have e_10 := hm_4.keep (rz_o1 n1) eg
  have u_11 := ht_6 _ _ udg
  have u_12 := ht_6 _ _ udq
  have u_13 := ht_6 _ _ ug
  have hm_14 : sm ρ [] ws ws_2 := hm_4.up (fun k _ h => rz_u1 w_kdg k h)
  have hsm := hsm.tr (hm_14.mono (by decide))
  have htx := htx.tr ht_6
  obtain ⟨f_15, e_16, g_17⟩ := hx_5
  refine lv_aload_n hx hb dX1_shareOut_8 rfl (lv_at hl 1 rfl) ?_
  refine va_get (D := D) (ci := 7) (v := .int vt) (C := RX7) (T := TX7) (N := 5) hx hb hts hin7 hown hK hP kv e_9 rfl 1 (by decide) (hts (.fieldLink RX1 29 "HoneyHouse$Vessel" "total" "I") (List.mem_of_getElem? (i := 2) rfl)) (fun _ h9 => h9) rfl dX1_shareOut_9 ?_
  refine lv_if_gt (tgt := 16) hx hb dX1_shareOut_12 (by decide) (fun c_18 => ?_) (fun c_18 => absurd (hvt) c_18)
  refine lv_iload_n hx hb dX1_shareOut_16 rfl (lv_at hl 2 rfl) ?_
  refine lv_istore_n (lv' := [(3, .int a2), (0, .ref d), (1, .ref v), (2, .int a2)]) hx hb dX1_shareOut_17 rfl hl (by decide) rfl (fun ls hl => ?_)
  refine lv_iconst (v := 0) hx hb dX1_shareOut_18 (by decide) ?_
  refine lv_istore (lv' := [(4, .int 0), (3, .int a2), (0, .ref d), (1, .ref v), (2, .int a2)]) hx hb dX1_shareOut_19 hl (by decide) rfl (fun ls hl => ?_)
  refine lp_A (nL := 7) (N := 40) (σ := Int32) (lv := fun i x_22 => [(4, .int (nI i)), (3, .int x_22), (0, .ref d), (1, .ref v), (2, .int a2)]) (J := fun i9 x9 w9 => sm ρ [] ws_2 w9 ∧ (∃ (d9 : Nat → Int32) (q9 : Nat → Int64), w9[kdg]? = some (dg, .inl (cdg, 40, .inl d9)) ∧ w9[kdq]? = some (dq, .inl (cdq, 40, .inr (.inl q9))) ∧ w9[kv]? = some (v, .inr (7, [.ref g, .int vt, .int vh, .int vr, .int vp])) ∧ w9[kg]? = some (g, .inl (cg, 40, .inl f)) ∧ (∀ j9 : Nat, j9 < i9 → d9 j9 = shD a2 vt.toInt64 (f j9) ∧ q9 j9 = shR a2 vt.toInt64 (f j9)) ∧ x9 = lak a2 vt.toInt64 f i9)) (fun i hi ih x_22 ws_19 H locs ls hj_20 hP hD hS hl => ?_) 0 (by omega) a2 _ _ _ ls ⟨sm.rf _, ⟨f_15, fq, e_16, e_8, e_9, e_10, fun j9 h9 => absurd h9 (Nat.not_lt_zero _), rfl⟩⟩ hP hD hS (lv_sub hl [0, 1, 2, 3, 4] rfl)
  obtain ⟨hj_20, hxj⟩ := hj_20
  have hxj : ∃ (d9 : Nat → Int32) (q9 : Nat → Int64), ws_19[kdg]? = some (dg, .inl (cdg, 40, .inl d9)) ∧ ws_19[kdq]? = some (dq, .inl (cdq, 40, .inr (.inl q9))) ∧ ws_19[kv]? = some (v, .inr (7, [.ref g, .int vt, .int vh, .int vr, .int vp])) ∧ ws_19[kg]? = some (g, .inl (cg, 40, .inl f)) ∧ (∀ j9 : Nat, j9 < i → d9 j9 = shD a2 vt.toInt64 (f j9) ∧ q9 j9 = shR a2 vt.toInt64 (f j9)) ∧ x_22 = lak a2 vt.toInt64 f i := hxj
  have hl : lv_has ls 7 [(4, .int (nI i)), (3, .int x_22), (0, .ref d), (1, .ref v), (2, .int a2)] := hl
  have e_23 := hj_20.objK e_7 (by decide)
  obtain ⟨f_25, e_24⟩ := hj_20.arrI e_16
  obtain ⟨f_27, e_26⟩ := hj_20.arrJ e_8
  have e_28 := hj_20.objK e_9 (by decide)
  obtain ⟨f_30, e_29⟩ := hj_20.arrI e_10
  have hsm := hsm.tr (hj_20.mono (by decide))
  obtain ⟨f_31, f_32, e_33, e_34, e_35, e_36, hd_37, hx_38⟩ := hxj
  have hlp_21 := hj_20
  refine lv_iload hx hb dX1_shareOut_21 (lv_at hl 0 rfl) ?_
  refine lv_aload_n hx hb dX1_shareOut_23 rfl (lv_at hl 2 rfl) ?_
  refine va_get (D := D) (ci := 1) (v := .ref dg) (C := RX1) (T := TX1) (N := 2) hx hb hts hin1 hown hK hP kd e_23 rfl 0 (by decide) (hts (.fieldLink RX1 9 "HoneyHouse$Draught" "grams" "[I") (List.mem_of_getElem? (i := 1) rfl)) (fun _ h9 => h9) rfl dX1_shareOut_24 ?_
  refine va_alen (v := 40) hx hb hK hP kdg tdg e_33 u_11 rfl dX1_shareOut_27 ?_
  refine lv_icmp_ge (tgt := 90) hx hb dX1_shareOut_28 (by decide) (fun c_39 => ?_) (fun c_39 => ?_)
  · refine lv_iconst (v := 0) hx hb dX1_shareOut_90 (by decide) ?_
    refine lv_istore (lv' := [(4, .int 0), (3, .int x_22), (0, .ref d), (1, .ref v), (2, .int a2)]) hx hb dX1_shareOut_91 hl (by decide) rfl (fun ls hl => ?_)
    have hi40 : i = 40 := by have := (nI_leI (a := 40) (b := i) (by omega) (by omega)).mp (show nI 40 ≤ nI i from c_39); omega
    rw [hi40] at hd_37 hx_38
    rw [hL] at hx_38
    rw [hx_38] at hl
    refine lp_A (nL := 7) (N := 40) (σ := Unit) (lv := fun i x_43 => [(4, .int (nI i)), (3, .int (nI L)), (0, .ref d), (1, .ref v), (2, .int a2)]) (J := fun i9 x9 w9 => sm ρ [] ws_19 w9 ∧ (∃ (d9 : Nat → Int32) (q9 : Nat → Int64), w9[kdg]? = some (dg, .inl (cdg, 40, .inl d9)) ∧ w9[kdq]? = some (dq, .inl (cdq, 40, .inr (.inl q9))) ∧ w9[kv]? = some (v, .inr (7, [.ref g, .int vt, .int vh, .int vr, .int vp])) ∧ w9[kg]? = some (g, .inl (cg, 40, .inl f)) ∧ i9 ≤ L ∧ ∀ j9 : Nat, j9 < 40 → d9 j9 = (rnd 40 (fun i9 => shD a2 vt.toInt64 (f i9)) (fun i9 => shR a2 vt.toInt64 (f i9)) i9).1 j9 ∧ q9 j9 = (rnd 40 (fun i9 => shD a2 vt.toInt64 (f i9)) (fun i9 => shR a2 vt.toInt64 (f i9)) i9).2 j9)) (fun i hi ih x_43 ws_40 H locs ls hj_41 hP hD hS hl => ?_) 0 (by omega) () _ _ _ ls ⟨sm.rf _, ⟨f_31, f_32, e_33, e_34, e_35, e_36, Nat.zero_le _, fun j9 h9 => hd_37 j9 (by omega)⟩⟩ hP hD hS (lv_sub hl [0, 1, 2, 3, 4] rfl)
    obtain ⟨hj_41, hxj⟩ := hj_41
    have hxj : ∃ (d9 : Nat → Int32) (q9 : Nat → Int64), ws_40[kdg]? = some (dg, .inl (cdg, 40, .inl d9)) ∧ ws_40[kdq]? = some (dq, .inl (cdq, 40, .inr (.inl q9))) ∧ ws_40[kv]? = some (v, .inr (7, [.ref g, .int vt, .int vh, .int vr, .int vp])) ∧ ws_40[kg]? = some (g, .inl (cg, 40, .inl f)) ∧ i ≤ L ∧ ∀ j9 : Nat, j9 < 40 → d9 j9 = (rnd 40 (fun i9 => shD a2 vt.toInt64 (f i9)) (fun i9 => shR a2 vt.toInt64 (f i9)) i).1 j9 ∧ q9 j9 = (rnd 40 (fun i9 => shD a2 vt.toInt64 (f i9)) (fun i9 => shR a2 vt.toInt64 (f i9)) i).2 j9 := hxj
    have hl : lv_has ls 7 [(4, .int (nI i)), (3, .int (nI L)), (0, .ref d), (1, .ref v), (2, .int a2)] := hl
    have e_44 := hj_41.objK e_23 (by decide)
    obtain ⟨f_46, e_45⟩ := hj_41.arrI e_33
    obtain ⟨f_48, e_47⟩ := hj_41.arrJ e_34
    have e_49 := hj_41.objK e_35 (by decide)
    obtain ⟨f_51, e_50⟩ := hj_41.arrI e_36
    have hsm := hsm.tr (hj_41.mono (by decide))
    have hlp_21 := hlp_21.tr (hj_41.mono (by decide))
    obtain ⟨f_52, f_53, e_54, e_55, e_56, e_57, hL_58, hd_59⟩ := hxj
    have hlp_42 := hj_41
    refine lv_iload hx hb dX1_shareOut_93 (lv_at hl 0 rfl) ?_
    refine lv_aload_n hx hb dX1_shareOut_95 rfl (lv_at hl 2 rfl) ?_
    refine va_get (D := D) (ci := 1) (v := .ref dq) (C := RX1) (T := TX1) (N := 2) hx hb hts hin1 hown hK hP kd e_44 rfl 1 (by decide) (hts (.fieldLink RX1 15 "HoneyHouse$Draught" "rests" "[J") (List.mem_of_getElem? (i := 3) rfl)) (fun _ h9 => h9) rfl dX1_shareOut_96 ?_
    refine va_alen (v := 40) hx hb hK hP kdq tdq e_55 u_12 rfl dX1_shareOut_99 ?_
    refine lv_icmp_ge (tgt := 142) hx hb dX1_shareOut_100 (by decide) (fun c_60 => ?_) (fun c_60 => ?_)
    · exact W.vret hx hb hr (fun t ht hW => ⟨⟨(), rfl, trivial, ws_40, ty_3, hsm, htx, by rw [ht]; exact hP, va_K.moved hW.alike hK, hD, ⟨f_52, e_54, fun j9 h9 => by have h8 : i = L := (by first | (have h7 := (nI_leI (a := 40) (b := i) (by omega) (by omega)).mp (show nI 40 ≤ nI i from c_60); omega) | (have h7 := (nI_leI (a := L) (b := i) (by omega) (by omega)).mp c_60; omega)); rw [← h8]; exact (hd_59 j9 h9).1⟩⟩, hS.F ht⟩) hS.2.2 dX1_shareOut_142
    have hlt : i < 40 := i_lt_of hi (by omega) rfl c_60
    refine lv_iload hx hb dX1_shareOut_103 (lv_at hl 0 rfl) ?_
    refine lv_iload_n hx hb dX1_shareOut_105 rfl (lv_at hl 1 rfl) ?_
    refine lv_icmp_ge (tgt := 142) hx hb dX1_shareOut_106 (by decide) (fun c_61 => ?_) (fun c_61 => ?_)
    · exact W.vret hx hb hr (fun t ht hW => ⟨⟨(), rfl, trivial, ws_40, ty_3, hsm, htx, by rw [ht]; exact hP, va_K.moved hW.alike hK, hD, ⟨f_52, e_54, fun j9 h9 => by have h8 : i = L := (by first | (have h7 := (nI_leI (a := 40) (b := i) (by omega) (by omega)).mp (show nI 40 ≤ nI i from c_61); omega) | (have h7 := (nI_leI (a := L) (b := i) (by omega) (by omega)).mp c_61; omega)); rw [← h8]; exact (hd_59 j9 h9).1⟩⟩, hS.F ht⟩) hS.2.2 dX1_shareOut_142
    have hiL : i < L := Nat.lt_of_not_le (fun h9 => c_61 (nI_le h9 (by omega)))
    refine lv_aload_n hx hb dX1_shareOut_109 rfl (lv_at hl 2 rfl) ?_
    refine vp_callSi (W.runV (As := []) (rest := []) ⟨hx, hb, hml, hown, hts⟩ (s_greatestRest l D ws_40 ty_3 d kd dg kdg cdg tdg f_52 dq kdq cdq tdq f_53 e_44 e_54 u_11 e_55 u_12) (cwV 0 hts gX1_shareOut_X1_greatestRest rfl rfl rfl (by decide +kernel) ⟨Nat.le_of_ble_eq_true rfl, Nat.le_of_ble_eq_true rfl⟩) ⟨fun a U g mk q => ⟨q.1, q.2.1, va_K.moved (u := U) (U := U.calling g mk a) (Vm.Alike.refl U.vm) q.2.2⟩, va_recv hK hP (ci := 1) (q0 := kd) rfl e_44, fun U hU hW => ⟨rfl, by rw [hU]; exact hP, va_K.moved hW.alike hK⟩⟩ rfl rfl hl.1 rfl (lv_room (Nat.le_of_ble_eq_true rfl)) dX1_shareOut_110 ⟨Nat.le_of_ble_eq_true rfl, Nat.le_of_ble_eq_true rfl⟩) (fun r_62 k_63 => ?_)
    obtain ⟨b_64, hb_65, eb_66, rfl⟩ : ∃ b9 : Nat, b9 < 40 ∧ b9 = bst f_53 40 ∧ r_62 = nI b9 := ⟨_, k_63.1, rfl, k_63.2⟩
    refine lv_istore (lv' := [(5, .int (nI b_64)), (4, .int (nI i)), (3, .int (nI L)), (0, .ref d), (1, .ref v), (2, .int a2)]) hx hb dX1_shareOut_113 hl (by decide) rfl (fun ls hl => ?_)
    refine lv_aload_n hx hb dX1_shareOut_115 rfl (lv_at hl 3 rfl) ?_
    refine va_get (D := D) (ci := 1) (v := .ref dg) (C := RX1) (T := TX1) (N := 2) hx hb hts hin1 hown hK hP kd e_44 rfl 0 (by decide) (hts (.fieldLink RX1 9 "HoneyHouse$Draught" "grams" "[I") (List.mem_of_getElem? (i := 1) rfl)) (fun _ h9 => h9) rfl dX1_shareOut_116 ?_
    refine lv_iload hx hb dX1_shareOut_119 (lv_at hl 0 rfl) ?_
    refine lv_dup2_11 hx hb dX1_shareOut_121 rfl rfl ?_
    refine va_iald (f := f_52) (n := 40) hx hb hK hP kdg tdg e_54 u_11 (vp_in_nI hb_65 (by omega)) dX1_shareOut_122 ?_
    refine lv_iconst (v := 1) hx hb dX1_shareOut_123 (by decide) ?_
    refine lv_iadd hx hb dX1_shareOut_124 ?_
    refine va_iast (f := f_52) (n := 40) hx hb hK hP hD hS kdg tdg e_54 u_11 (vp_in_nI hb_65 (by omega)) dX1_shareOut_125 (fun H locs hP hD hS => ?_)
    have hm_68 : sm ρ [] ws_40 (ws_40.set kdg (dg, .inl (cdg, 40, .inl (upd f_52 (nI b_64).toNatClampNeg ((f_52 (nI b_64).toNatClampNeg) + 1))))) := sm.ints e_54 w_kdg
    have e_69 : (ws_40.set kdg (dg, .inl (cdg, 40, .inl (upd f_52 (nI b_64).toNatClampNeg ((f_52 (nI b_64).toNatClampNeg) + 1)))))[kdg]? = some (dg, .inl (cdg, 40, .inl (upd f_52 (nI b_64).toNatClampNeg ((f_52 (nI b_64).toNatClampNeg) + 1)))) := wset_self e_54
    have e_70 := set_n (z := (dg, .inl (cdg, 40, .inl (upd f_52 (nI b_64).toNatClampNeg ((f_52 (nI b_64).toNatClampNeg) + 1))))) e_44 (pl_ne e_44 e_54 (by intro h9; simp at h9))
    have e_71 := set_n (z := (dg, .inl (cdg, 40, .inl (upd f_52 (nI b_64).toNatClampNeg ((f_52 (nI b_64).toNatClampNeg) + 1))))) e_55 (pl_ne e_55 e_54 (by intro h9; simp at h9))
    have e_72 := set_n (z := (dg, .inl (cdg, 40, .inl (upd f_52 (nI b_64).toNatClampNeg ((f_52 (nI b_64).toNatClampNeg) + 1))))) e_56 (pl_ne e_56 e_54 (by intro h9; simp at h9))
    have e_73 := set_n (z := (dg, .inl (cdg, 40, .inl (upd f_52 (nI b_64).toNatClampNeg ((f_52 (nI b_64).toNatClampNeg) + 1))))) e_57 n1
    generalize ws_40.set kdg (dg, .inl (cdg, 40, .inl (upd f_52 (nI b_64).toNatClampNeg ((f_52 (nI b_64).toNatClampNeg) + 1)))) = ws_67 at hP hD hm_68 e_69 e_70 e_71 e_72 e_73
    have hsm := hsm.tr (hm_68.mono (fun _ h9 => absurd h9 List.not_mem_nil))
    have hlp_21 := hlp_21.tr (hm_68.mono (fun _ h9 => absurd h9 List.not_mem_nil))
    have hlp_42 := hlp_42.tr (hm_68.mono (fun _ h9 => absurd h9 List.not_mem_nil))
    obtain ⟨f_74, hf_75⟩ : ∃ g9, g9 = upd f_52 (nI b_64).toNatClampNeg ((f_52 (nI b_64).toNatClampNeg) + 1) := ⟨_, rfl⟩
    rw [← hf_75] at e_69
    refine lv_aload_n hx hb dX1_shareOut_126 rfl (lv_at hl 3 rfl) ?_
    refine va_get (D := D) (ci := 1) (v := .ref dq) (C := RX1) (T := TX1) (N := 2) hx hb hts hin1 hown hK hP kd e_70 rfl 1 (by decide) (hts (.fieldLink RX1 15 "HoneyHouse$Draught" "rests" "[J") (List.mem_of_getElem? (i := 3) rfl)) (fun _ h9 => h9) rfl dX1_shareOut_127 ?_
    refine lv_iload hx hb dX1_shareOut_130 (lv_at hl 0 rfl) ?_
    refine lv_ldc2 hx hb hown (hts (.constantLong RX1 56 (-1)) (List.mem_of_getElem? (i := 4) rfl)) dX1_shareOut_132 ?_
    refine va_last (f := f_53) (n := 40) hx hb hK hP hD hS kdq tdq e_71 u_12 (vp_in_nI hb_65 (by omega)) dX1_shareOut_135 (fun H locs hP hD hS => ?_)
    have hm_77 : sm ρ [] ws_67 (ws_67.set kdq (dq, .inl (cdq, 40, .inr (.inl (vp_updL f_53 (nI b_64).toNatClampNeg (-1)))))) := sm.longs e_71 w_kdq
    have e_78 : (ws_67.set kdq (dq, .inl (cdq, 40, .inr (.inl (vp_updL f_53 (nI b_64).toNatClampNeg (-1))))))[kdq]? = some (dq, .inl (cdq, 40, .inr (.inl (vp_updL f_53 (nI b_64).toNatClampNeg (-1))))) := wset_self e_71
    have e_79 := set_n (z := (dq, .inl (cdq, 40, .inr (.inl (vp_updL f_53 (nI b_64).toNatClampNeg (-1)))))) e_70 (pl_ne e_70 e_71 (by intro h9; simp at h9))
    have e_80 := set_n (z := (dq, .inl (cdq, 40, .inr (.inl (vp_updL f_53 (nI b_64).toNatClampNeg (-1)))))) e_69 (pl_ne e_69 e_71 (by intro h9; simp at h9))
    have e_81 := set_n (z := (dq, .inl (cdq, 40, .inr (.inl (vp_updL f_53 (nI b_64).toNatClampNeg (-1)))))) e_72 (pl_ne e_72 e_71 (by intro h9; simp at h9))
    have e_82 := set_n (z := (dq, .inl (cdq, 40, .inr (.inl (vp_updL f_53 (nI b_64).toNatClampNeg (-1)))))) e_73 (pl_ne e_73 e_71 (by intro h9; simp at h9))
    generalize ws_67.set kdq (dq, .inl (cdq, 40, .inr (.inl (vp_updL f_53 (nI b_64).toNatClampNeg (-1))))) = ws_76 at hP hD hm_77 e_78 e_79 e_80 e_81 e_82
    have hsm := hsm.tr (hm_77.mono (fun _ h9 => absurd h9 List.not_mem_nil))
    have hlp_21 := hlp_21.tr (hm_77.mono (fun _ h9 => absurd h9 List.not_mem_nil))
    have hlp_42 := hlp_42.tr (hm_77.mono (fun _ h9 => absurd h9 List.not_mem_nil))
    obtain ⟨f_83, hf_84⟩ : ∃ g9, g9 = vp_updL f_53 (nI b_64).toNatClampNeg (-1) := ⟨_, rfl⟩
    rw [← hf_84] at e_78
    refine lv_iinc (v := nI (i + 1)) (lv' := [(4, .int (nI (i + 1))), (5, .int (nI b_64)), (3, .int (nI L)), (0, .ref d), (1, .ref v), (2, .int a2)]) hx hb dX1_shareOut_136 hl (k := 1) rfl (nI_1 i) (by decide) rfl (fun ls hl => ?_)
    refine lv_goto (tgt := 93) hx hb dX1_shareOut_139 (by decide) ?_
    exact ih hlt () _ _ _ ls ⟨hlp_42, ⟨f_74, f_83, e_80, e_78, e_81, e_82, by omega, fun j9 h9 => by rw [hf_75, hf_84, nI_clamp (n := b_64) (by omega)]; exact rn_s hd_59 eb_66 hb_65 h9⟩⟩ hP hD hS (lv_sub hl [0, 2, 3, 4, 5] rfl)
  have hlt : i < 40 := i_lt_of hi (by omega) rfl c_39
  refine lv_iload_n hx hb dX1_shareOut_31 rfl (lv_at hl 4 rfl) ?_
  refine lv_i2l hx hb dX1_shareOut_32 rfl ?_
  refine lv_aload_n hx hb dX1_shareOut_33 rfl (lv_at hl 3 rfl) ?_
  refine lv_iload hx hb dX1_shareOut_34 (lv_at hl 0 rfl) ?_
  refine vp_callSi (W.runV (As := [.int (nI i)]) (rest := [.long a2.toInt64]) ⟨hx, hb, hml, hown, hts⟩ (s_gramsOf l D ws_19 ty_3 v kv vt vh vr vp g kg cg tg f (nI i) e_35 e_36 u_13) (cwV 1 hts gX1_shareOut_X7_gramsOf rfl rfl rfl (by decide +kernel) ⟨Nat.le_of_ble_eq_true rfl, Nat.le_of_ble_eq_true rfl⟩) ⟨fun a U g mk q => ⟨q.1, q.2.1, va_K.moved (u := U) (U := U.calling g mk a) (Vm.Alike.refl U.vm) q.2.2⟩, va_recv hK hP (ci := 7) (q0 := kv) rfl e_35, fun U hU hW => ⟨rfl, by rw [hU]; exact hP, va_K.moved hW.alike hK⟩⟩ rfl rfl hl.1 rfl (lv_room (Nat.le_of_ble_eq_true rfl)) dX1_shareOut_36 ⟨Nat.le_of_ble_eq_true rfl, Nat.le_of_ble_eq_true rfl⟩) (fun r_85 k_86 => ?_)
  obtain rfl : r_85 = f i := by rcases k_86 with ⟨-, h9 | h9⟩ | ⟨-, -, h9⟩; exact absurd h9 (nI_pos (by omega)); exact absurd h9 (show ¬ (40 : Int32) ≤ _ from nI_ge (a := i) (b := 40) hlt (by omega)); rw [h9, nI_clamp (n := i) (by omega)]
  refine lv_i2l hx hb dX1_shareOut_39 rfl ?_
  refine lv_lmul hx hb dX1_shareOut_40 ?_
  refine lv_lstore (lv' := [(5, .long (a2.toInt64 * ((f i).toInt64))), (4, .int (nI i)), (3, .int x_22), (0, .ref d), (1, .ref v), (2, .int a2)]) hx hb dX1_shareOut_41 hl (by decide) rfl (fun ls hl => ?_)
  refine lv_aload_n hx hb dX1_shareOut_43 rfl (lv_at hl 3 rfl) ?_
  refine va_get (D := D) (ci := 1) (v := .ref dg) (C := RX1) (T := TX1) (N := 2) hx hb hts hin1 hown hK hP kd e_23 rfl 0 (by decide) (hts (.fieldLink RX1 9 "HoneyHouse$Draught" "grams" "[I") (List.mem_of_getElem? (i := 1) rfl)) (fun _ h9 => h9) rfl dX1_shareOut_44 ?_
  refine lv_iload hx hb dX1_shareOut_47 (lv_at hl 1 rfl) ?_
  refine lv_lload hx hb dX1_shareOut_49 (lv_at hl 0 rfl) ?_
  refine lv_aload_n hx hb dX1_shareOut_51 rfl (lv_at hl 4 rfl) ?_
  refine va_get (D := D) (ci := 7) (v := .int vt) (C := RX7) (T := TX7) (N := 5) hx hb hts hin7 hown hK hP kv e_35 rfl 1 (by decide) (hts (.fieldLink RX1 29 "HoneyHouse$Vessel" "total" "I") (List.mem_of_getElem? (i := 2) rfl)) (fun _ h9 => h9) rfl dX1_shareOut_52 ?_
  refine lv_i2l hx hb dX1_shareOut_55 rfl ?_
  refine lv_ldiv hx hb dX1_shareOut_56 (i_pos64 hvt) ?_
  refine lv_l2i hx hb dX1_shareOut_57 rfl ?_
  refine va_iast (f := f_31) (n := 40) hx hb hK hP hD hS kdg tdg e_33 u_11 (vp_in_nI hlt (by omega)) dX1_shareOut_58 (fun H locs hP hD hS => ?_)
  have hm_88 : sm ρ [] ws_19 (ws_19.set kdg (dg, .inl (cdg, 40, .inl (upd f_31 (nI i).toNatClampNeg (((a2.toInt64 * ((f i).toInt64)) / vt.toInt64).toInt32))))) := sm.ints e_33 w_kdg
  have e_89 : (ws_19.set kdg (dg, .inl (cdg, 40, .inl (upd f_31 (nI i).toNatClampNeg (((a2.toInt64 * ((f i).toInt64)) / vt.toInt64).toInt32)))))[kdg]? = some (dg, .inl (cdg, 40, .inl (upd f_31 (nI i).toNatClampNeg (((a2.toInt64 * ((f i).toInt64)) / vt.toInt64).toInt32)))) := wset_self e_33
  have e_90 := set_n (z := (dg, .inl (cdg, 40, .inl (upd f_31 (nI i).toNatClampNeg (((a2.toInt64 * ((f i).toInt64)) / vt.toInt64).toInt32))))) e_23 (pl_ne e_23 e_33 (by intro h9; simp at h9))
  have e_91 := set_n (z := (dg, .inl (cdg, 40, .inl (upd f_31 (nI i).toNatClampNeg (((a2.toInt64 * ((f i).toInt64)) / vt.toInt64).toInt32))))) e_34 (pl_ne e_34 e_33 (by intro h9; simp at h9))
  have e_92 := set_n (z := (dg, .inl (cdg, 40, .inl (upd f_31 (nI i).toNatClampNeg (((a2.toInt64 * ((f i).toInt64)) / vt.toInt64).toInt32))))) e_35 (pl_ne e_35 e_33 (by intro h9; simp at h9))
  have e_93 := set_n (z := (dg, .inl (cdg, 40, .inl (upd f_31 (nI i).toNatClampNeg (((a2.toInt64 * ((f i).toInt64)) / vt.toInt64).toInt32))))) e_36 n1
  generalize ws_19.set kdg (dg, .inl (cdg, 40, .inl (upd f_31 (nI i).toNatClampNeg (((a2.toInt64 * ((f i).toInt64)) / vt.toInt64).toInt32)))) = ws_87 at hP hD hm_88 e_89 e_90 e_91 e_92 e_93
  have hsm := hsm.tr (hm_88.mono (fun _ h9 => absurd h9 List.not_mem_nil))
  have hlp_21 := hlp_21.tr (hm_88.mono (fun _ h9 => absurd h9 List.not_mem_nil))
  obtain ⟨f_94, hf_95⟩ : ∃ g9, g9 = upd f_31 (nI i).toNatClampNeg (((a2.toInt64 * ((f i).toInt64)) / vt.toInt64).toInt32) := ⟨_, rfl⟩
  rw [← hf_95] at e_89
  refine lv_aload_n hx hb dX1_shareOut_59 rfl (lv_at hl 3 rfl) ?_
  refine va_get (D := D) (ci := 1) (v := .ref dq) (C := RX1) (T := TX1) (N := 2) hx hb hts hin1 hown hK hP kd e_90 rfl 1 (by decide) (hts (.fieldLink RX1 15 "HoneyHouse$Draught" "rests" "[J") (List.mem_of_getElem? (i := 3) rfl)) (fun _ h9 => h9) rfl dX1_shareOut_60 ?_
  refine lv_iload hx hb dX1_shareOut_63 (lv_at hl 1 rfl) ?_
  refine lv_lload hx hb dX1_shareOut_65 (lv_at hl 0 rfl) ?_
  refine lv_aload_n hx hb dX1_shareOut_67 rfl (lv_at hl 4 rfl) ?_
  refine va_get (D := D) (ci := 7) (v := .int vt) (C := RX7) (T := TX7) (N := 5) hx hb hts hin7 hown hK hP kv e_92 rfl 1 (by decide) (hts (.fieldLink RX1 29 "HoneyHouse$Vessel" "total" "I") (List.mem_of_getElem? (i := 2) rfl)) (fun _ h9 => h9) rfl dX1_shareOut_68 ?_
  refine lv_i2l hx hb dX1_shareOut_71 rfl ?_
  refine lv_lrem hx hb dX1_shareOut_72 (i_pos64 hvt) ?_
  refine va_last (f := f_32) (n := 40) hx hb hK hP hD hS kdq tdq e_91 u_12 (vp_in_nI hlt (by omega)) dX1_shareOut_73 (fun H locs hP hD hS => ?_)
  have hm_97 : sm ρ [] ws_87 (ws_87.set kdq (dq, .inl (cdq, 40, .inr (.inl (vp_updL f_32 (nI i).toNatClampNeg ((a2.toInt64 * ((f i).toInt64)) - (a2.toInt64 * ((f i).toInt64)) / vt.toInt64 * vt.toInt64)))))) := sm.longs e_91 w_kdq
  have e_98 : (ws_87.set kdq (dq, .inl (cdq, 40, .inr (.inl (vp_updL f_32 (nI i).toNatClampNeg ((a2.toInt64 * ((f i).toInt64)) - (a2.toInt64 * ((f i).toInt64)) / vt.toInt64 * vt.toInt64))))))[kdq]? = some (dq, .inl (cdq, 40, .inr (.inl (vp_updL f_32 (nI i).toNatClampNeg ((a2.toInt64 * ((f i).toInt64)) - (a2.toInt64 * ((f i).toInt64)) / vt.toInt64 * vt.toInt64))))) := wset_self e_91
  have e_99 := set_n (z := (dq, .inl (cdq, 40, .inr (.inl (vp_updL f_32 (nI i).toNatClampNeg ((a2.toInt64 * ((f i).toInt64)) - (a2.toInt64 * ((f i).toInt64)) / vt.toInt64 * vt.toInt64)))))) e_90 (pl_ne e_90 e_91 (by intro h9; simp at h9))
  have e_100 := set_n (z := (dq, .inl (cdq, 40, .inr (.inl (vp_updL f_32 (nI i).toNatClampNeg ((a2.toInt64 * ((f i).toInt64)) - (a2.toInt64 * ((f i).toInt64)) / vt.toInt64 * vt.toInt64)))))) e_89 (pl_ne e_89 e_91 (by intro h9; simp at h9))
  have e_101 := set_n (z := (dq, .inl (cdq, 40, .inr (.inl (vp_updL f_32 (nI i).toNatClampNeg ((a2.toInt64 * ((f i).toInt64)) - (a2.toInt64 * ((f i).toInt64)) / vt.toInt64 * vt.toInt64)))))) e_92 (pl_ne e_92 e_91 (by intro h9; simp at h9))
  have e_102 := set_n (z := (dq, .inl (cdq, 40, .inr (.inl (vp_updL f_32 (nI i).toNatClampNeg ((a2.toInt64 * ((f i).toInt64)) - (a2.toInt64 * ((f i).toInt64)) / vt.toInt64 * vt.toInt64)))))) e_93 (pl_ne e_93 e_91 (by intro h9; simp at h9))
  generalize ws_87.set kdq (dq, .inl (cdq, 40, .inr (.inl (vp_updL f_32 (nI i).toNatClampNeg ((a2.toInt64 * ((f i).toInt64)) - (a2.toInt64 * ((f i).toInt64)) / vt.toInt64 * vt.toInt64))))) = ws_96 at hP hD hm_97 e_98 e_99 e_100 e_101 e_102
  have hsm := hsm.tr (hm_97.mono (fun _ h9 => absurd h9 List.not_mem_nil))
  have hlp_21 := hlp_21.tr (hm_97.mono (fun _ h9 => absurd h9 List.not_mem_nil))
  obtain ⟨f_103, hf_104⟩ : ∃ g9, g9 = vp_updL f_32 (nI i).toNatClampNeg ((a2.toInt64 * ((f i).toInt64)) - (a2.toInt64 * ((f i).toInt64)) / vt.toInt64 * vt.toInt64) := ⟨_, rfl⟩
  rw [← hf_104] at e_98
  refine lv_iload_n hx hb dX1_shareOut_74 rfl (lv_at hl 2 rfl) ?_
  refine lv_aload_n hx hb dX1_shareOut_75 rfl (lv_at hl 3 rfl) ?_
  refine va_get (D := D) (ci := 1) (v := .ref dg) (C := RX1) (T := TX1) (N := 2) hx hb hts hin1 hown hK hP kd e_99 rfl 0 (by decide) (hts (.fieldLink RX1 9 "HoneyHouse$Draught" "grams" "[I") (List.mem_of_getElem? (i := 1) rfl)) (fun _ h9 => h9) rfl dX1_shareOut_76 ?_
  refine lv_iload hx hb dX1_shareOut_79 (lv_at hl 1 rfl) ?_
  refine va_iald (f := f_94) (n := 40) hx hb hK hP kdg tdg e_100 u_11 (vp_in_nI hlt (by omega)) dX1_shareOut_81 ?_
  refine lv_isub hx hb dX1_shareOut_82 ?_
  refine lv_istore_n (lv' := [(3, .int (x_22 - (f_94 (nI i).toNatClampNeg))), (5, .long (a2.toInt64 * ((f i).toInt64))), (4, .int (nI i)), (0, .ref d), (1, .ref v), (2, .int a2)]) hx hb dX1_shareOut_83 rfl hl (by decide) rfl (fun ls hl => ?_)
  refine lv_iinc (v := nI (i + 1)) (lv' := [(4, .int (nI (i + 1))), (3, .int (x_22 - (f_94 (nI i).toNatClampNeg))), (5, .long (a2.toInt64 * ((f i).toInt64))), (0, .ref d), (1, .ref v), (2, .int a2)]) hx hb dX1_shareOut_84 hl (k := 2) rfl (nI_1 i) (by decide) rfl (fun ls hl => ?_)
  refine lv_goto (tgt := 21) hx hb dX1_shareOut_87 (by decide) ?_
  exact ih hlt (x_22 - (f_94 (nI i).toNatClampNeg)) _ _ _ ls ⟨hlp_21, ⟨f_94, f_103, e_100, e_98, e_101, e_102, fun j9 h9 => by rw [hf_95, hf_104, nI_clamp (n := i) (by omega)]; exact sh_s hd_37 h9, by rw [hf_95, nI_clamp (n := i) (by omega), upd_s, hx_38]; rfl⟩⟩ hP hD hS (lv_sub hl [0, 1, 3, 4, 5] rfl)
theorem dr_s {f f9 d : Nat → Int32} {i : Nat} (h1 : ∀ j : Nat, j < i → f9 j = f j - d j) (h2 : ∀ j : Nat, i ≤ j → j < 40 → f9 j = f j) (hi : i < 40) : ∀ j : Nat, j < i + 1 → upd f9 i (f9 i + -(d i)) j = f j - d j := by
  intro j hj
  rcases Nat.decEq j i with e | e
  · rw [upd_n e]; exact h1 j (by omega)
  · rw [e, upd_s, h2 i (Nat.le_refl _) hi, ← Int32.sub_eq_add_neg]
theorem fl_s {f f9 d : Nat → Int32} {i : Nat} (h1 : ∀ j : Nat, j < i → f9 j = f j + d j) (h2 : ∀ j : Nat, i ≤ j → j < 40 → f9 j = f j) (hi : i < 40) : ∀ j : Nat, j < i + 1 → upd f9 i (f9 i + d i) j = f j + d j := by
  intro j hj
  rcases Nat.decEq j i with e | e
  · rw [upd_n e]; exact h1 j (by omega)
  · rw [e, upd_s, h2 i (Nat.le_refl _) hi]
theorem un_s {f f9 : Nat → Int32} {i : Nat} {x : Int32} (h2 : ∀ j : Nat, i ≤ j → j < 40 → f9 j = f j) : ∀ j : Nat, i + 1 ≤ j → j < 40 → upd f9 i x j = f j := fun j h h3 => by rw [upd_n (by omega)]; exact h2 j (by omega) h3
set_option maxHeartbeats 4000000 in
set_option maxRecDepth 100000 in
theorem a_drawFrom (l : Launch) (D : va_G) (ρ : Nat → Nat) (ws : va_W) (tys : List (ClassId × FieldType)) (d kd : Nat) (dg kdg : Nat) (cdg : ClassId) (tdg : Nat) (fd : Nat → Int32) (dq kdq : Nat) (cdq : ClassId) (tdq : Nat) (fq : Nat → Int64) (v kv : Nat) (vt vh vr vp : Int32) (g kg : Nat) (cg : ClassId) (tg : Nat) (f : Nat → Int32) (a2 : Int32) (L : Nat) (sz : Nat) (hvs : vt = sm1 f 40) (hvt : 0 < vt) (hL : lak a2 vt.toInt64 f 40 = nI L) (hL40 : L ≤ 40) (n1 : kg ≠ kdg) (ed : ws[kd]? = some (d, .inr (1, [.ref dg, .ref dq]))) (edg : ws[kdg]? = some (dg, .inl (cdg, 40, .inl fd))) (udg : tys[tdg]? = some (cdg, .int)) (edq : ws[kdq]? = some (dq, .inl (cdq, 40, .inr (.inl fq)))) (udq : tys[tdq]? = some (cdq, .long)) (ev : ws[kv]? = some (v, .inr (7, [.ref g, .int vt, .int vh, .int vr, .int vp]))) (eg : ws[kg]? = some (g, .inl (cg, 40, .inl f))) (ug : tys[tg]? = some (cg, .int)) (w_kdg : ρ kdg = 0) (w_kdq : ρ kdq = 0) (w_kv : ρ kv = 0) (w_kg : ρ kg = 0) : Met l yX1_drawFrom wsX1_drawFrom ({ frames := 2, cells := 0, slots := 0, locals := 49 }) (va_Pc [.ref d, .ref v, .int a2] (fun U => U.heap.size = sz ∧ va_P D vwCl ws U.heap ∧ va_K D vwCl tys U ∧ va_D (fun _ => True) ws)) (va_Qv (fun _ : Unit => True) (fun (_ : Unit) (t : State) => ∃ (ws' : va_W) (tys' : List (ClassId × FieldType)), sm ρ [7] ws ws' ∧ tyx tys tys' ∧ va_P D vwCl ws' t.heap ∧ va_K D vwCl tys' t ∧ va_D (va_A ws sz) ws' ∧ (∃ (d9 f9 : Nat → Int32), ws'[kdg]? = some (dg, .inl (cdg, 40, .inl d9)) ∧ (∀ j9 : Nat, j9 < 40 → d9 j9 = (rnd 40 (fun i9 => shD a2 vt.toInt64 (f i9)) (fun i9 => shR a2 vt.toInt64 (f i9)) L).1 j9) ∧ ws'[kg]? = some (g, .inl (cg, 40, .inl f9)) ∧ (∀ j9 : Nat, j9 < 40 → f9 j9 = f j9 - d9 j9) ∧ ws'[kv]? = some (v, .inr (7, [.ref g, .int (sm1 f9 40), .int (if sm1 f9 40 = 0 then 0 else vh), .int vr, .int vp])))) (va_A ws sz)) 0 0 (va_A ws sz) := by
  refine Met.ofW (cc := cX1_drawFrom) (maxL := 4) (ret := none) (by decide) rfl ?_
  intro p e s m args below meth c s₁ B hml hv
  obtain ⟨rfl, hsz, hP, hK, hD0⟩ := hv
  have hx := B.exec
  have hb := B.bytes
  have hr := B.returns
  have hts := atoms_spec (ws := wsX1_drawFrom) B.pre
  have hown : s.vm.findClass RX1 = some m.cls := findClass_of_methodNamed B.named
  have hlocks := B.notSynchronized
  subst hsz
  have hD := hD0.self (sz := s.heap.size)
  generalize hAe : va_A ws s.heap.size = A at hD ⊢
  have hA : ∀ q : Nat, s.heap.size ≤ q → A q := fun q h => by rw [← hAe]; exact Or.inr h
  have hS : va_S A s.heap s.heap [] := va_S.rf
  have hsm : sm ρ [7] ws ws := sm.rf ws
  have htx : tyx tys tys := tyx.rf tys
  have hin1 : ∀ w ∈ u_ws RX1 TX1 2, w ∈ wsX1_drawFrom := (fun _ h9 => List.mem_cons_of_mem _ (List.mem_append_left _ ((List.mem_append_right _ h9))))
  have hin7 : ∀ w ∈ u_ws RX7 TX7 5, w ∈ wsX1_drawFrom := (fun _ h9 => List.mem_cons_of_mem _ ((List.mem_append_right _ h9)))
  have hl := lv_entry ([.ref d, .ref v, .int a2]) (n := 4) (Nat.le_of_ble_eq_true rfl)
  rw [lg_entry_eq]
  generalize (lg_sl ([.ref d, .ref v, .int a2]) ++ List.replicate (4 - (lg_sl ([.ref d, .ref v, .int a2])).length) Slot.unset).toArray = ls at hl ⊢
  have hl : lv_has ls 4 [(0, .ref d), (1, .ref v), (2, .int a2)] := hl
  refine lv_aload_n hx hb dX1_drawFrom_0 rfl (lv_at hl 0 rfl) ?_
  refine lv_aload_n hx hb dX1_drawFrom_1 rfl (lv_at hl 1 rfl) ?_
  refine lv_iload_n hx hb dX1_drawFrom_2 rfl (lv_at hl 2 rfl) ?_
  have hFc := free_all hD hS hA
  refine va_callv (va_runV (As := [.ref v, .int a2]) (rest := []) ⟨hx, hb, hml, hown, hts⟩ (a_shareOut l D (rz [kdg, kdq]) ws tys d kd dg kdg cdg tdg fd dq kdq cdq tdq fq v kv vt vh vr vp g kg cg tg f a2 L s.heap.size hvt hL hL40 n1 ed edg udg edq udq ev eg ug (rz_in (by simp)) (rz_in (by simp))) (cwV 2 hts gX1_drawFrom_X1_shareOut rfl rfl rfl (by decide +kernel) ⟨Nat.le_of_ble_eq_true rfl, Nat.le_of_ble_eq_true rfl⟩) ⟨fun a U g mk q => by obtain ⟨q0, q1, qP, qK, qD⟩ := q; exact ⟨q0, q1, qP, va_K.moved (u := U) (U := U.calling g mk a) (Vm.Alike.refl U.vm) qK, qD⟩, va_recv hK hP (ci := 1) (q0 := kd) rfl ed, fun U hU hW => ⟨rfl, by rw [hU], by rw [hU]; exact hP, va_K.moved hW.alike hK, hD.weaken (fun _ _ _ _ => trivial)⟩⟩ rfl rfl hl.1 rfl (lv_room (Nat.le_of_ble_eq_true rfl)) dX1_drawFrom_3 ⟨Nat.le_of_ble_eq_true rfl, Nat.le_of_ble_eq_true rfl⟩) hS (fun q _ h => hFc q h) hFc (fun u t H1 locs ht hvm w_1 hB hz1 hk1 hS => ?_)
  obtain ⟨ws_2, ty_3, hm_4, ht_6, hP1, hK1, hD1, hx_5⟩ := hB
  rw [ht] at hP1
  have hK := va_K.moved hvm.symm hK1
  have hD := hD1.weaken (fun _ _ _ h => hFc _ h)
  generalize H1 = H at hP1 hS ⊢
  have hP := hP1
  have e_7 := hm_4.keep (rz_o2 (pl_ne ed edg (by intro h9; simp at h9)) (pl_ne ed edq (by intro h9; simp at h9))) ed
  have e_8 := hm_4.keep (rz_o2 (pl_ne ev edg (by intro h9; simp at h9)) (pl_ne ev edq (by intro h9; simp at h9))) ev
  have e_9 := hm_4.keep (rz_o2 n1 (pl_ne eg edq (by intro h9; simp at h9))) eg
  have u_10 := ht_6 _ _ udg
  have u_11 := ht_6 _ _ udq
  have u_12 := ht_6 _ _ ug
  have hm_13 : sm ρ [] ws ws_2 := hm_4.up (fun k _ h => rz_u2 w_kdg w_kdq k h)
  have hsm := hsm.tr (hm_13.mono (by decide))
  have htx := htx.tr ht_6
  obtain ⟨f_14, e_15, g_16⟩ := hx_5
  obtain ⟨f_18, e_17⟩ := hm_4.arrJ edq
  refine lv_iconst (v := 0) hx hb dX1_drawFrom_6 (by decide) ?_
  refine lv_istore_n (lv' := [(3, .int 0), (0, .ref d), (1, .ref v), (2, .int a2)]) hx hb dX1_drawFrom_7 rfl hl (by decide) rfl (fun ls hl => ?_)
  refine lp_A (nL := 4) (N := 40) (σ := Unit) (lv := fun i x_22 => [(3, .int (nI i)), (0, .ref d), (1, .ref v), (2, .int a2)]) (J := fun i9 x9 w9 => sm ρ [7] ws_2 w9 ∧ (∃ f9 : Nat → Int32, w9[kg]? = some (g, .inl (cg, 40, .inl f9)) ∧ w9[kv]? = some (v, .inr (7, [.ref g, .int (sm1 f9 40), .int vh, .int vr, .int vp])) ∧ w9[kdg]? = some (dg, .inl (cdg, 40, .inl (f_14))) ∧ (∀ j9 : Nat, j9 < i9 → f9 j9 = f j9 - f_14 j9) ∧ ∀ j9 : Nat, i9 ≤ j9 → j9 < 40 → f9 j9 = f j9)) (fun i hi ih x_22 ws_19 H locs ls hj_20 hP hD hS hl => ?_) 0 (by omega) () _ _ _ ls ⟨sm.rf _, ⟨f, e_9, by rw [← hvs]; exact e_8, e_15, fun j9 h9 => absurd h9 (Nat.not_lt_zero _), fun _ _ _ => rfl⟩⟩ hP hD hS (lv_sub hl [0, 1, 2, 3] rfl)
  obtain ⟨hj_20, hxj⟩ := hj_20
  have hxj : ∃ f9 : Nat → Int32, ws_19[kg]? = some (g, .inl (cg, 40, .inl f9)) ∧ ws_19[kv]? = some (v, .inr (7, [.ref g, .int (sm1 f9 40), .int vh, .int vr, .int vp])) ∧ ws_19[kdg]? = some (dg, .inl (cdg, 40, .inl (f_14))) ∧ (∀ j9 : Nat, j9 < i → f9 j9 = f j9 - f_14 j9) ∧ ∀ j9 : Nat, i ≤ j9 → j9 < 40 → f9 j9 = f j9 := hxj
  have hl : lv_has ls 4 [(3, .int (nI i)), (0, .ref d), (1, .ref v), (2, .int a2)] := hl
  have e_23 := hj_20.objK e_7 (by decide)
  obtain ⟨f_25, e_24⟩ := hj_20.arrI e_15
  obtain ⟨f_27, e_26⟩ := hj_20.arrJ e_17
  obtain ⟨g_29, e_28, h_30⟩ := hj_20.obj e_8
  obtain ⟨z_31, z_32, z_33, z_34, rfl⟩ := smX7 h_30
  obtain ⟨f_36, e_35⟩ := hj_20.arrI e_9
  have hsm := hsm.tr (hj_20.mono (by decide))
  obtain ⟨f_37, e_38, e_39, e_40, h_41, h_42⟩ := hxj
  have hlp_21 := hj_20
  refine lv_iload_n hx hb dX1_drawFrom_8 rfl (lv_at hl 0 rfl) ?_
  refine lv_aload_n hx hb dX1_drawFrom_9 rfl (lv_at hl 1 rfl) ?_
  refine va_get (D := D) (ci := 1) (v := .ref dg) (C := RX1) (T := TX1) (N := 2) hx hb hts hin1 hown hK hP kd e_23 rfl 0 (by decide) (hts (.fieldLink RX1 9 "HoneyHouse$Draught" "grams" "[I") (List.mem_of_getElem? (i := 1) rfl)) (fun _ h9 => h9) rfl dX1_drawFrom_10 ?_
  refine va_alen (v := 40) hx hb hK hP kdg tdg e_40 u_10 rfl dX1_drawFrom_13 ?_
  refine lv_icmp_ge (tgt := 35) hx hb dX1_drawFrom_14 (by decide) (fun c_43 => ?_) (fun c_43 => ?_)
  · have hi40 : i = 40 := by have := (nI_leI (a := 40) (b := i) (by omega) (by omega)).mp (show nI 40 ≤ nI i from c_43); omega
    rw [hi40] at h_41
    refine lv_aload_n hx hb dX1_drawFrom_35 rfl (lv_at hl 2 rfl) ?_
    refine va_get (D := D) (ci := 7) (v := .int (sm1 f_37 40)) (C := RX7) (T := TX7) (N := 5) hx hb hts hin7 hown hK hP kv e_39 rfl 1 (by decide) (hts (.fieldLink RX1 29 "HoneyHouse$Vessel" "total" "I") (List.mem_of_getElem? (i := 2) rfl)) (fun _ h9 => h9) rfl dX1_drawFrom_36 ?_
    refine lv_if_ne (tgt := 47) hx hb dX1_drawFrom_39 (by decide) (fun c_44 => ?_) (fun c_44 => ?_)
    · exact W.vret hx hb hr (fun t ht hW => ⟨⟨(), rfl, trivial, ws_19, ty_3, hsm, htx, by rw [ht]; exact hP, va_K.moved hW.alike hK, hD, ⟨f_14, f_37, e_40, g_16, e_38, h_41, by rw [if_neg c_44]; exact e_39⟩⟩, hS.F ht⟩) hS.2.2 dX1_drawFrom_47
    refine lv_aload_n hx hb dX1_drawFrom_42 rfl (lv_at hl 2 rfl) ?_
    refine lv_iconst (v := 0) hx hb dX1_drawFrom_43 (by decide) ?_
    refine va_put (D := D) (ci := 7) (v := .int 0) (ty := .int) (C := RX7) (T := TX7) (N := 5) hx hb hts hin7 tyX7 tyX7_ok nmX7 hown hK hP hD hS kv e_39 rfl 2 (by decide) (hts (.fieldLink RX1 33 "HoneyHouse$Vessel" "heat" "I") (List.mem_of_getElem? (i := 3) rfl)) (fun _ h9 => h9) rfl (tyX7_ok 2 (by decide)) rfl rfl (Nat.le_of_ble_eq_true rfl) dX1_drawFrom_44 (fun H locs hP hD hS => ?_)
    have hP : va_P D vwCl (ws_19.set kv (v, .inr (7, [.ref g, .int (sm1 f_37 40), .int 0, .int vr, .int vp]))) H := hP
    have hD : va_D A (ws_19.set kv (v, .inr (7, [.ref g, .int (sm1 f_37 40), .int 0, .int vr, .int vp]))) := hD
    have hm_46 : sm ρ [7] ws_19 (ws_19.set kv (v, .inr (7, [.ref g, .int (sm1 f_37 40), .int 0, .int vr, .int vp]))) := sm.flds e_39 (smF.c (smV.rf _) (smF.c (smV.rf _) (smF.c (smV.i _ _) (smF.c (smV.rf _) (smF.c (smV.rf _) (rfl)))))) (List.mem_singleton.mpr rfl) w_kv
    have e_47 : (ws_19.set kv (v, .inr (7, [.ref g, .int (sm1 f_37 40), .int 0, .int vr, .int vp])))[kv]? = some (v, .inr (7, [.ref g, .int (sm1 f_37 40), .int 0, .int vr, .int vp])) := wset_self e_39
    have e_48 := set_n (z := (v, .inr (7, [.ref g, .int (sm1 f_37 40), .int 0, .int vr, .int vp]))) e_23 (pl_ne e_23 e_39 (by intro h9; simp at h9))
    have e_49 := set_n (z := (v, .inr (7, [.ref g, .int (sm1 f_37 40), .int 0, .int vr, .int vp]))) e_40 (pl_ne e_40 e_39 (by intro h9; simp at h9))
    have e_50 := set_n (z := (v, .inr (7, [.ref g, .int (sm1 f_37 40), .int 0, .int vr, .int vp]))) e_26 (pl_ne e_26 e_39 (by intro h9; simp at h9))
    have e_51 := set_n (z := (v, .inr (7, [.ref g, .int (sm1 f_37 40), .int 0, .int vr, .int vp]))) e_38 (pl_ne e_38 e_39 (by intro h9; simp at h9))
    generalize ws_19.set kv (v, .inr (7, [.ref g, .int (sm1 f_37 40), .int 0, .int vr, .int vp])) = ws_45 at hP hD hm_46 e_47 e_48 e_49 e_50 e_51
    have hsm := hsm.tr (hm_46.mono (by decide))
    have hlp_21 := hlp_21.tr (hm_46.mono (by decide))
    exact W.vret hx hb hr (fun t ht hW => ⟨⟨(), rfl, trivial, ws_45, ty_3, hsm, htx, by rw [ht]; exact hP, va_K.moved hW.alike hK, hD, ⟨f_14, f_37, e_49, g_16, e_51, h_41, by rw [if_pos c_44]; exact e_47⟩⟩, hS.F ht⟩) hS.2.2 dX1_drawFrom_47
  have hlt : i < 40 := i_lt_of hi (by omega) rfl c_43
  refine lv_aload_n hx hb dX1_drawFrom_17 rfl (lv_at hl 2 rfl) ?_
  refine lv_iload_n hx hb dX1_drawFrom_18 rfl (lv_at hl 0 rfl) ?_
  refine lv_aload_n hx hb dX1_drawFrom_19 rfl (lv_at hl 1 rfl) ?_
  refine va_get (D := D) (ci := 1) (v := .ref dg) (C := RX1) (T := TX1) (N := 2) hx hb hts hin1 hown hK hP kd e_23 rfl 0 (by decide) (hts (.fieldLink RX1 9 "HoneyHouse$Draught" "grams" "[I") (List.mem_of_getElem? (i := 1) rfl)) (fun _ h9 => h9) rfl dX1_drawFrom_20 ?_
  refine lv_iload_n hx hb dX1_drawFrom_23 rfl (lv_at hl 0 rfl) ?_
  refine va_iald (f := f_14) (n := 40) hx hb hK hP kdg tdg e_40 u_10 (vp_in_nI hlt (by omega)) dX1_drawFrom_24 ?_
  refine lv_ineg hx hb dX1_drawFrom_25 ?_
  have hFc := free_all hD hS hA
  refine va_callv (va_runV (As := [.int (nI i), .int (-(f_14 (nI i).toNatClampNeg))]) (rest := []) ⟨hx, hb, hml, hown, hts⟩ (a_addGrams l D (rz [kg, kv]) ws_19 ty_3 v kv (sm1 f_37 40) vh vr vp g kg cg tg f_37 (nI i) (-(f_14 (nI i).toNatClampNeg)) H.size (nI_pos (by omega)) (show ¬ (40 : Int32) ≤ _ from nI_ge (a := i) (b := 40) hlt (by omega)) e_39 e_38 u_12 (rz_in (by simp)) (rz_in (by simp))) (cwV 2 hts gX1_drawFrom_X7_addGrams rfl rfl rfl (by decide +kernel) ⟨Nat.le_of_ble_eq_true rfl, Nat.le_of_ble_eq_true rfl⟩) ⟨fun a U g mk q => by obtain ⟨q0, q1, qP, qK, qD⟩ := q; exact ⟨q0, q1, qP, va_K.moved (u := U) (U := U.calling g mk a) (Vm.Alike.refl U.vm) qK, qD⟩, va_recv hK hP (ci := 7) (q0 := kv) rfl e_39, fun U hU hW => ⟨rfl, by rw [hU], by rw [hU]; exact hP, va_K.moved hW.alike hK, hD.weaken (fun _ _ _ _ => trivial)⟩⟩ rfl rfl hl.1 rfl (lv_room (Nat.le_of_ble_eq_true rfl)) dX1_drawFrom_26 ⟨Nat.le_of_ble_eq_true rfl, Nat.le_of_ble_eq_true rfl⟩) hS (fun q _ h => hFc q h) hFc (fun u t H1 locs ht hvm w_52 hB hz1 hk1 hS => ?_)
  obtain ⟨ws_53, ty_54, hm_55, ht_57, hP1, hK1, hD1, hx_56⟩ := hB
  rw [ht] at hP1
  have hK := va_K.moved hvm.symm hK1
  have hD := hD1.weaken (fun _ _ _ h => hFc _ h)
  generalize H1 = H at hP1 hS ⊢
  have hP := hP1
  have e_58 := hm_55.keep (rz_o2 (pl_ne e_23 e_38 (by intro h9; simp at h9)) (pl_ne e_23 e_39 (by intro h9; simp at h9))) e_23
  have e_59 := hm_55.keep (rz_o2 (fun h9 => n1 h9.symm) (pl_ne e_40 e_39 (by intro h9; simp at h9))) e_40
  have e_60 := hm_55.keep (rz_o2 (pl_ne e_26 e_38 (by intro h9; simp at h9)) (pl_ne e_26 e_39 (by intro h9; simp at h9))) e_26
  have u_61 := ht_57 _ _ u_10
  have u_62 := ht_57 _ _ u_11
  have u_63 := ht_57 _ _ u_12
  have hm_64 : sm ρ [7] ws_19 ws_53 := hm_55.up (fun k _ h => rz_u2 w_kg w_kv k h)
  have hsm := hsm.tr (hm_64.mono (by decide))
  have hlp_21 := hlp_21.tr (hm_64.mono (by decide))
  have htx := htx.tr ht_57
  obtain ⟨e_65, f_66, e_67, hf_68⟩ := hx_56
  refine lv_iinc (v := nI (i + 1)) (lv' := [(3, .int (nI (i + 1))), (0, .ref d), (1, .ref v), (2, .int a2)]) hx hb dX1_drawFrom_29 hl (k := 0) rfl (nI_1 i) (by decide) rfl (fun ls hl => ?_)
  refine lv_goto (tgt := 8) hx hb dX1_drawFrom_32 (by decide) ?_
  rw [nI_clamp (n := i) (by omega)] at e_65 hf_68
  exact ih hlt () _ _ _ ls ⟨hlp_21, ⟨f_66, e_67, by rw [hf_68, sm1_u 40 hlt]; exact e_65, e_59, by rw [hf_68]; exact dr_s h_41 h_42 hlt, by rw [hf_68]; exact un_s h_42⟩⟩ hP hD hS (lv_sub hl [0, 1, 2, 3] rfl)
set_option maxHeartbeats 4000000 in
set_option maxRecDepth 100000 in
theorem a_fillInto (l : Launch) (D : va_G) (ρ : Nat → Nat) (ws : va_W) (tys : List (ClassId × FieldType)) (d kd : Nat) (dg kdg : Nat) (cdg : ClassId) (tdg : Nat) (fd : Nat → Int32) (dq kdq : Nat) (cdq : ClassId) (tdq : Nat) (fq : Nat → Int64) (v kv : Nat) (vt vh vr vp : Int32) (g kg : Nat) (cg : ClassId) (tg : Nat) (f : Nat → Int32) (a2 : Int32) (sz : Nat) (hvs : vt = sm1 f 40) (n1 : kg ≠ kdg) (ed : ws[kd]? = some (d, .inr (1, [.ref dg, .ref dq]))) (edg : ws[kdg]? = some (dg, .inl (cdg, 40, .inl fd))) (udg : tys[tdg]? = some (cdg, .int)) (edq : ws[kdq]? = some (dq, .inl (cdq, 40, .inr (.inl fq)))) (udq : tys[tdq]? = some (cdq, .long)) (ev : ws[kv]? = some (v, .inr (7, [.ref g, .int vt, .int vh, .int vr, .int vp]))) (eg : ws[kg]? = some (g, .inl (cg, 40, .inl f))) (ug : tys[tg]? = some (cg, .int)) (w_kv : ρ kv = 0) (w_kg : ρ kg = 0) : Met l yX1_fillInto wsX1_fillInto ({ frames := 1, cells := 0, slots := 0, locals := 40 }) (va_Pc [.ref d, .ref v, .int a2] (fun U => U.heap.size = sz ∧ va_P D vwCl ws U.heap ∧ va_K D vwCl tys U ∧ va_D (fun _ => True) ws)) (va_Qv (fun _ : Unit => True) (fun (_ : Unit) (t : State) => ∃ (ws' : va_W) (tys' : List (ClassId × FieldType)), sm ρ [7] ws ws' ∧ tyx tys tys' ∧ va_P D vwCl ws' t.heap ∧ va_K D vwCl tys' t ∧ va_D (va_A ws sz) ws' ∧ (∃ f9 : Nat → Int32, ws'[kg]? = some (g, .inl (cg, 40, .inl f9)) ∧ (∀ j9 : Nat, j9 < 40 → f9 j9 = f j9 + fd j9) ∧ ws'[kv]? = some (v, .inr (7, [.ref g, .int (sm1 f9 40), .int (if vt = 0 then a2 else if vh < a2 then a2 else vh), .int vr, .int vp])))) (va_A ws sz)) 0 0 (va_A ws sz) := by
  refine Met.ofW (cc := cX1_fillInto) (maxL := 4) (ret := none) (by decide) rfl ?_
  intro p e s m args below meth c s₁ B hml hv
  obtain ⟨rfl, hsz, hP, hK, hD0⟩ := hv
  have hx := B.exec
  have hb := B.bytes
  have hr := B.returns
  have hts := atoms_spec (ws := wsX1_fillInto) B.pre
  have hown : s.vm.findClass RX1 = some m.cls := findClass_of_methodNamed B.named
  have hlocks := B.notSynchronized
  subst hsz
  have hD := hD0.self (sz := s.heap.size)
  generalize hAe : va_A ws s.heap.size = A at hD ⊢
  have hA : ∀ q : Nat, s.heap.size ≤ q → A q := fun q h => by rw [← hAe]; exact Or.inr h
  have hS : va_S A s.heap s.heap [] := va_S.rf
  have hsm : sm ρ [7] ws ws := sm.rf ws
  have htx : tyx tys tys := tyx.rf tys
  have hin1 : ∀ w ∈ u_ws RX1 TX1 2, w ∈ wsX1_fillInto := (fun _ h9 => List.mem_cons_of_mem _ ((List.mem_append_right _ h9)))
  have hin7 : ∀ w ∈ u_ws RX7 TX7 5, w ∈ wsX1_fillInto := (fun _ h9 => List.mem_cons_of_mem _ (List.mem_append_left _ ((List.mem_append_right _ h9))))
  have hl := lv_entry ([.ref d, .ref v, .int a2]) (n := 4) (Nat.le_of_ble_eq_true rfl)
  rw [lg_entry_eq]
  generalize (lg_sl ([.ref d, .ref v, .int a2]) ++ List.replicate (4 - (lg_sl ([.ref d, .ref v, .int a2])).length) Slot.unset).toArray = ls at hl ⊢
  have hl : lv_has ls 4 [(0, .ref d), (1, .ref v), (2, .int a2)] := hl
  refine lv_aload_n hx hb dX1_fillInto_0 rfl (lv_at hl 1 rfl) ?_
  refine lv_aload_n hx hb dX1_fillInto_1 rfl (lv_at hl 1 rfl) ?_
  refine va_get (D := D) (ci := 7) (v := .int vt) (C := RX7) (T := TX7) (N := 5) hx hb hts hin7 hown hK hP kv ev rfl 1 (by decide) (hts (.fieldLink RX1 29 "HoneyHouse$Vessel" "total" "I") (List.mem_of_getElem? (i := 1) rfl)) (fun _ h9 => h9) rfl dX1_fillInto_2 ?_
  refine lv_if_ne (tgt := 12) hx hb dX1_fillInto_5 (by decide) (fun c_1 => ?_) (fun c_1 => ?_)
  · refine lv_aload_n hx hb dX1_fillInto_12 rfl (lv_at hl 1 rfl) ?_
    refine va_get (D := D) (ci := 7) (v := .int vh) (C := RX7) (T := TX7) (N := 5) hx hb hts hin7 hown hK hP kv ev rfl 2 (by decide) (hts (.fieldLink RX1 33 "HoneyHouse$Vessel" "heat" "I") (List.mem_of_getElem? (i := 2) rfl)) (fun _ h9 => h9) rfl dX1_fillInto_13 ?_
    refine lv_iload_n hx hb dX1_fillInto_16 rfl (lv_at hl 2 rfl) ?_
    refine va_mmax hx hb (by rw [hml]; exact hl.1.symm) hown (hts (.methodLink RX1 36 Lib.Math.max.name) (List.mem_of_getElem? (i := 3) rfl)) (hts (.static Lib.Math.max.name) (List.mem_of_getElem? (i := 4) rfl)) (hts (.initialized "java/lang/Math") (List.mem_of_getElem? (i := 5) rfl)) (hts (.code Lib.Math.max.name Lib.Math.max.code 2 (some .int)) (List.mem_of_getElem? (i := 6) rfl)) (Nat.le_of_ble_eq_true rfl) (Nat.le_of_ble_eq_true rfl) (Nat.le_of_ble_eq_true rfl) (Nat.le_of_ble_eq_true rfl) dX1_fillInto_17 ?_
    refine lv_topi (fun z_2 hz_3 => ?_)
    obtain rfl : z_2 = if vh < a2 then a2 else vh := hz_3
    refine va_put (D := D) (ci := 7) (v := .int (if vh < a2 then a2 else vh)) (ty := .int) (C := RX7) (T := TX7) (N := 5) hx hb hts hin7 tyX7 tyX7_ok nmX7 hown hK hP hD hS kv ev rfl 2 (by decide) (hts (.fieldLink RX1 33 "HoneyHouse$Vessel" "heat" "I") (List.mem_of_getElem? (i := 2) rfl)) (fun _ h9 => h9) rfl (tyX7_ok 2 (by decide)) rfl rfl (Nat.le_of_ble_eq_true rfl) dX1_fillInto_20 (fun H locs hP hD hS => ?_)
    have hP : va_P D vwCl (ws.set kv (v, .inr (7, [.ref g, .int vt, .int (if vh < a2 then a2 else vh), .int vr, .int vp]))) H := hP
    have hD : va_D A (ws.set kv (v, .inr (7, [.ref g, .int vt, .int (if vh < a2 then a2 else vh), .int vr, .int vp]))) := hD
    have hm_5 : sm ρ [7] ws (ws.set kv (v, .inr (7, [.ref g, .int vt, .int (if vh < a2 then a2 else vh), .int vr, .int vp]))) := sm.flds ev (smF.c (smV.rf _) (smF.c (smV.rf _) (smF.c (smV.i _ _) (smF.c (smV.rf _) (smF.c (smV.rf _) (rfl)))))) (List.mem_singleton.mpr rfl) w_kv
    have e_6 : (ws.set kv (v, .inr (7, [.ref g, .int vt, .int (if vh < a2 then a2 else vh), .int vr, .int vp])))[kv]? = some (v, .inr (7, [.ref g, .int vt, .int (if vh < a2 then a2 else vh), .int vr, .int vp])) := wset_self ev
    have e_7 := set_n (z := (v, .inr (7, [.ref g, .int vt, .int (if vh < a2 then a2 else vh), .int vr, .int vp]))) ed (pl_ne ed ev (by intro h9; simp at h9))
    have e_8 := set_n (z := (v, .inr (7, [.ref g, .int vt, .int (if vh < a2 then a2 else vh), .int vr, .int vp]))) edg (pl_ne edg ev (by intro h9; simp at h9))
    have e_9 := set_n (z := (v, .inr (7, [.ref g, .int vt, .int (if vh < a2 then a2 else vh), .int vr, .int vp]))) edq (pl_ne edq ev (by intro h9; simp at h9))
    have e_10 := set_n (z := (v, .inr (7, [.ref g, .int vt, .int (if vh < a2 then a2 else vh), .int vr, .int vp]))) eg (pl_ne eg ev (by intro h9; simp at h9))
    generalize ws.set kv (v, .inr (7, [.ref g, .int vt, .int (if vh < a2 then a2 else vh), .int vr, .int vp])) = ws_4 at hP hD hm_5 e_6 e_7 e_8 e_9 e_10
    have hsm := hsm.tr (hm_5.mono (by decide))
    refine lv_iconst (v := 0) hx hb dX1_fillInto_23 (by decide) ?_
    refine lv_istore_n (lv' := [(3, .int 0), (0, .ref d), (1, .ref v), (2, .int a2)]) hx hb dX1_fillInto_24 rfl hl (by decide) rfl (fun ls hl => ?_)
    refine lp_A (nL := 4) (N := 40) (σ := Unit) (lv := fun i x_14 => [(3, .int (nI i)), (0, .ref d), (1, .ref v), (2, .int a2)]) (J := fun i9 x9 w9 => sm ρ [7] ws_4 w9 ∧ (∃ f9 : Nat → Int32, w9[kg]? = some (g, .inl (cg, 40, .inl f9)) ∧ w9[kv]? = some (v, .inr (7, [.ref g, .int (sm1 f9 40), .int (if vh < a2 then a2 else vh), .int vr, .int vp])) ∧ w9[kdg]? = some (dg, .inl (cdg, 40, .inl (fd))) ∧ (∀ j9 : Nat, j9 < i9 → f9 j9 = f j9 + fd j9) ∧ ∀ j9 : Nat, i9 ≤ j9 → j9 < 40 → f9 j9 = f j9)) (fun i hi ih x_14 ws_11 H locs ls hj_12 hP hD hS hl => ?_) 0 (by omega) () _ _ _ ls ⟨sm.rf _, ⟨f, e_10, by rw [← hvs]; exact e_6, e_8, fun j9 h9 => absurd h9 (Nat.not_lt_zero _), fun _ _ _ => rfl⟩⟩ hP hD hS (lv_sub hl [0, 1, 2, 3] rfl)
    obtain ⟨hj_12, hxj⟩ := hj_12
    have hxj : ∃ f9 : Nat → Int32, ws_11[kg]? = some (g, .inl (cg, 40, .inl f9)) ∧ ws_11[kv]? = some (v, .inr (7, [.ref g, .int (sm1 f9 40), .int (if vh < a2 then a2 else vh), .int vr, .int vp])) ∧ ws_11[kdg]? = some (dg, .inl (cdg, 40, .inl (fd))) ∧ (∀ j9 : Nat, j9 < i → f9 j9 = f j9 + fd j9) ∧ ∀ j9 : Nat, i ≤ j9 → j9 < 40 → f9 j9 = f j9 := hxj
    have hl : lv_has ls 4 [(3, .int (nI i)), (0, .ref d), (1, .ref v), (2, .int a2)] := hl
    have e_15 := hj_12.objK e_7 (by decide)
    obtain ⟨f_17, e_16⟩ := hj_12.arrI e_8
    obtain ⟨f_19, e_18⟩ := hj_12.arrJ e_9
    obtain ⟨g_21, e_20, h_22⟩ := hj_12.obj e_6
    obtain ⟨z_23, z_24, z_25, z_26, rfl⟩ := smX7 h_22
    obtain ⟨f_28, e_27⟩ := hj_12.arrI e_10
    have hsm := hsm.tr (hj_12.mono (by decide))
    obtain ⟨f_29, e_30, e_31, e_32, h_33, h_34⟩ := hxj
    have hlp_13 := hj_12
    refine lv_iload_n hx hb dX1_fillInto_25 rfl (lv_at hl 0 rfl) ?_
    refine lv_aload_n hx hb dX1_fillInto_26 rfl (lv_at hl 1 rfl) ?_
    refine va_get (D := D) (ci := 1) (v := .ref dg) (C := RX1) (T := TX1) (N := 2) hx hb hts hin1 hown hK hP kd e_15 rfl 0 (by decide) (hts (.fieldLink RX1 9 "HoneyHouse$Draught" "grams" "[I") (List.mem_of_getElem? (i := 7) rfl)) (fun _ h9 => h9) rfl dX1_fillInto_27 ?_
    refine va_alen (v := 40) hx hb hK hP kdg tdg e_32 udg rfl dX1_fillInto_30 ?_
    refine lv_icmp_ge (tgt := 51) hx hb dX1_fillInto_31 (by decide) (fun c_35 => ?_) (fun c_35 => ?_)
    · have hi40 : i = 40 := by have := (nI_leI (a := 40) (b := i) (by omega) (by omega)).mp (show nI 40 ≤ nI i from c_35); omega
      rw [hi40] at h_33
      exact W.vret hx hb hr (fun t ht hW => ⟨⟨(), rfl, trivial, ws_11, tys, hsm, htx, by rw [ht]; exact hP, va_K.moved hW.alike hK, hD, ⟨f_29, e_30, h_33, by rw [if_neg c_1]; exact e_31⟩⟩, hS.F ht⟩) hS.2.2 dX1_fillInto_51
    have hlt : i < 40 := i_lt_of hi (by omega) rfl c_35
    refine lv_aload_n hx hb dX1_fillInto_34 rfl (lv_at hl 2 rfl) ?_
    refine lv_iload_n hx hb dX1_fillInto_35 rfl (lv_at hl 0 rfl) ?_
    refine lv_aload_n hx hb dX1_fillInto_36 rfl (lv_at hl 1 rfl) ?_
    refine va_get (D := D) (ci := 1) (v := .ref dg) (C := RX1) (T := TX1) (N := 2) hx hb hts hin1 hown hK hP kd e_15 rfl 0 (by decide) (hts (.fieldLink RX1 9 "HoneyHouse$Draught" "grams" "[I") (List.mem_of_getElem? (i := 7) rfl)) (fun _ h9 => h9) rfl dX1_fillInto_37 ?_
    refine lv_iload_n hx hb dX1_fillInto_40 rfl (lv_at hl 0 rfl) ?_
    refine va_iald (f := fd) (n := 40) hx hb hK hP kdg tdg e_32 udg (vp_in_nI hlt (by omega)) dX1_fillInto_41 ?_
    have hFc := free_all hD hS hA
    refine va_callv (va_runV (As := [.int (nI i), .int (fd (nI i).toNatClampNeg)]) (rest := []) ⟨hx, hb, hml, hown, hts⟩ (a_addGrams l D (rz [kg, kv]) ws_11 tys v kv (sm1 f_29 40) (if vh < a2 then a2 else vh) vr vp g kg cg tg f_29 (nI i) (fd (nI i).toNatClampNeg) H.size (nI_pos (by omega)) (show ¬ (40 : Int32) ≤ _ from nI_ge (a := i) (b := 40) hlt (by omega)) e_31 e_30 ug (rz_in (by simp)) (rz_in (by simp))) (cwV 2 hts gX1_fillInto_X7_addGrams rfl rfl rfl (by decide +kernel) ⟨Nat.le_of_ble_eq_true rfl, Nat.le_of_ble_eq_true rfl⟩) ⟨fun a U g mk q => by obtain ⟨q0, q1, qP, qK, qD⟩ := q; exact ⟨q0, q1, qP, va_K.moved (u := U) (U := U.calling g mk a) (Vm.Alike.refl U.vm) qK, qD⟩, va_recv hK hP (ci := 7) (q0 := kv) rfl e_31, fun U hU hW => ⟨rfl, by rw [hU], by rw [hU]; exact hP, va_K.moved hW.alike hK, hD.weaken (fun _ _ _ _ => trivial)⟩⟩ rfl rfl hl.1 rfl (lv_room (Nat.le_of_ble_eq_true rfl)) dX1_fillInto_42 ⟨Nat.le_of_ble_eq_true rfl, Nat.le_of_ble_eq_true rfl⟩) hS (fun q _ h => hFc q h) hFc (fun u t H1 locs ht hvm w_36 hB hz1 hk1 hS => ?_)
    obtain ⟨ws_37, ty_38, hm_39, ht_41, hP1, hK1, hD1, hx_40⟩ := hB
    rw [ht] at hP1
    have hK := va_K.moved hvm.symm hK1
    have hD := hD1.weaken (fun _ _ _ h => hFc _ h)
    generalize H1 = H at hP1 hS ⊢
    have hP := hP1
    have e_42 := hm_39.keep (rz_o2 (pl_ne e_15 e_30 (by intro h9; simp at h9)) (pl_ne e_15 e_31 (by intro h9; simp at h9))) e_15
    have e_43 := hm_39.keep (rz_o2 (fun h9 => n1 h9.symm) (pl_ne e_32 e_31 (by intro h9; simp at h9))) e_32
    have e_44 := hm_39.keep (rz_o2 (pl_ne e_18 e_30 (by intro h9; simp at h9)) (pl_ne e_18 e_31 (by intro h9; simp at h9))) e_18
    have u_45 := ht_41 _ _ udg
    have u_46 := ht_41 _ _ udq
    have u_47 := ht_41 _ _ ug
    have hm_48 : sm ρ [7] ws_11 ws_37 := hm_39.up (fun k _ h => rz_u2 w_kg w_kv k h)
    have hsm := hsm.tr (hm_48.mono (by decide))
    have hlp_13 := hlp_13.tr (hm_48.mono (by decide))
    have htx := htx.tr ht_41
    obtain ⟨e_49, f_50, e_51, hf_52⟩ := hx_40
    refine lv_iinc (v := nI (i + 1)) (lv' := [(3, .int (nI (i + 1))), (0, .ref d), (1, .ref v), (2, .int a2)]) hx hb dX1_fillInto_45 hl (k := 0) rfl (nI_1 i) (by decide) rfl (fun ls hl => ?_)
    refine lv_goto (tgt := 25) hx hb dX1_fillInto_48 (by decide) ?_
    rw [nI_clamp (n := i) (by omega)] at e_49 hf_52
    exact ih hlt () _ _ _ ls ⟨hlp_13, ⟨f_50, e_51, by rw [hf_52, sm1_u 40 hlt]; exact e_49, e_43, by rw [hf_52]; exact fl_s h_33 h_34 hlt, by rw [hf_52]; exact un_s h_34⟩⟩ hP hD hS (lv_sub hl [0, 1, 2, 3] rfl)
  refine lv_iload_n hx hb dX1_fillInto_8 rfl (lv_at hl 2 rfl) ?_
  refine lv_goto (tgt := 20) hx hb dX1_fillInto_9 (by decide) ?_
  refine va_put (D := D) (ci := 7) (v := .int a2) (ty := .int) (C := RX7) (T := TX7) (N := 5) hx hb hts hin7 tyX7 tyX7_ok nmX7 hown hK hP hD hS kv ev rfl 2 (by decide) (hts (.fieldLink RX1 33 "HoneyHouse$Vessel" "heat" "I") (List.mem_of_getElem? (i := 2) rfl)) (fun _ h9 => h9) rfl (tyX7_ok 2 (by decide)) rfl rfl (Nat.le_of_ble_eq_true rfl) dX1_fillInto_20 (fun H locs hP hD hS => ?_)
  have hP : va_P D vwCl (ws.set kv (v, .inr (7, [.ref g, .int vt, .int a2, .int vr, .int vp]))) H := hP
  have hD : va_D A (ws.set kv (v, .inr (7, [.ref g, .int vt, .int a2, .int vr, .int vp]))) := hD
  have hm_54 : sm ρ [7] ws (ws.set kv (v, .inr (7, [.ref g, .int vt, .int a2, .int vr, .int vp]))) := sm.flds ev (smF.c (smV.rf _) (smF.c (smV.rf _) (smF.c (smV.i _ _) (smF.c (smV.rf _) (smF.c (smV.rf _) (rfl)))))) (List.mem_singleton.mpr rfl) w_kv
  have e_55 : (ws.set kv (v, .inr (7, [.ref g, .int vt, .int a2, .int vr, .int vp])))[kv]? = some (v, .inr (7, [.ref g, .int vt, .int a2, .int vr, .int vp])) := wset_self ev
  have e_56 := set_n (z := (v, .inr (7, [.ref g, .int vt, .int a2, .int vr, .int vp]))) ed (pl_ne ed ev (by intro h9; simp at h9))
  have e_57 := set_n (z := (v, .inr (7, [.ref g, .int vt, .int a2, .int vr, .int vp]))) edg (pl_ne edg ev (by intro h9; simp at h9))
  have e_58 := set_n (z := (v, .inr (7, [.ref g, .int vt, .int a2, .int vr, .int vp]))) edq (pl_ne edq ev (by intro h9; simp at h9))
  have e_59 := set_n (z := (v, .inr (7, [.ref g, .int vt, .int a2, .int vr, .int vp]))) eg (pl_ne eg ev (by intro h9; simp at h9))
  generalize ws.set kv (v, .inr (7, [.ref g, .int vt, .int a2, .int vr, .int vp])) = ws_53 at hP hD hm_54 e_55 e_56 e_57 e_58 e_59
  have hsm := hsm.tr (hm_54.mono (by decide))
  refine lv_iconst (v := 0) hx hb dX1_fillInto_23 (by decide) ?_
  refine lv_istore_n (lv' := [(3, .int 0), (0, .ref d), (1, .ref v), (2, .int a2)]) hx hb dX1_fillInto_24 rfl hl (by decide) rfl (fun ls hl => ?_)
  refine lp_A (nL := 4) (N := 40) (σ := Unit) (lv := fun i x_63 => [(3, .int (nI i)), (0, .ref d), (1, .ref v), (2, .int a2)]) (J := fun i9 x9 w9 => sm ρ [7] ws_53 w9 ∧ (∃ f9 : Nat → Int32, w9[kg]? = some (g, .inl (cg, 40, .inl f9)) ∧ w9[kv]? = some (v, .inr (7, [.ref g, .int (sm1 f9 40), .int a2, .int vr, .int vp])) ∧ w9[kdg]? = some (dg, .inl (cdg, 40, .inl (fd))) ∧ (∀ j9 : Nat, j9 < i9 → f9 j9 = f j9 + fd j9) ∧ ∀ j9 : Nat, i9 ≤ j9 → j9 < 40 → f9 j9 = f j9)) (fun i hi ih x_63 ws_60 H locs ls hj_61 hP hD hS hl => ?_) 0 (by omega) () _ _ _ ls ⟨sm.rf _, ⟨f, e_59, by rw [← hvs]; exact e_55, e_57, fun j9 h9 => absurd h9 (Nat.not_lt_zero _), fun _ _ _ => rfl⟩⟩ hP hD hS (lv_sub hl [0, 1, 2, 3] rfl)
  obtain ⟨hj_61, hxj⟩ := hj_61
  have hxj : ∃ f9 : Nat → Int32, ws_60[kg]? = some (g, .inl (cg, 40, .inl f9)) ∧ ws_60[kv]? = some (v, .inr (7, [.ref g, .int (sm1 f9 40), .int a2, .int vr, .int vp])) ∧ ws_60[kdg]? = some (dg, .inl (cdg, 40, .inl (fd))) ∧ (∀ j9 : Nat, j9 < i → f9 j9 = f j9 + fd j9) ∧ ∀ j9 : Nat, i ≤ j9 → j9 < 40 → f9 j9 = f j9 := hxj
  have hl : lv_has ls 4 [(3, .int (nI i)), (0, .ref d), (1, .ref v), (2, .int a2)] := hl
  have e_64 := hj_61.objK e_56 (by decide)
  obtain ⟨f_66, e_65⟩ := hj_61.arrI e_57
  obtain ⟨f_68, e_67⟩ := hj_61.arrJ e_58
  obtain ⟨g_70, e_69, h_71⟩ := hj_61.obj e_55
  obtain ⟨z_72, z_73, z_74, z_75, rfl⟩ := smX7 h_71
  obtain ⟨f_77, e_76⟩ := hj_61.arrI e_59
  have hsm := hsm.tr (hj_61.mono (by decide))
  obtain ⟨f_78, e_79, e_80, e_81, h_82, h_83⟩ := hxj
  have hlp_62 := hj_61
  refine lv_iload_n hx hb dX1_fillInto_25 rfl (lv_at hl 0 rfl) ?_
  refine lv_aload_n hx hb dX1_fillInto_26 rfl (lv_at hl 1 rfl) ?_
  refine va_get (D := D) (ci := 1) (v := .ref dg) (C := RX1) (T := TX1) (N := 2) hx hb hts hin1 hown hK hP kd e_64 rfl 0 (by decide) (hts (.fieldLink RX1 9 "HoneyHouse$Draught" "grams" "[I") (List.mem_of_getElem? (i := 7) rfl)) (fun _ h9 => h9) rfl dX1_fillInto_27 ?_
  refine va_alen (v := 40) hx hb hK hP kdg tdg e_81 udg rfl dX1_fillInto_30 ?_
  refine lv_icmp_ge (tgt := 51) hx hb dX1_fillInto_31 (by decide) (fun c_84 => ?_) (fun c_84 => ?_)
  · have hi40 : i = 40 := by have := (nI_leI (a := 40) (b := i) (by omega) (by omega)).mp (show nI 40 ≤ nI i from c_84); omega
    rw [hi40] at h_82
    exact W.vret hx hb hr (fun t ht hW => ⟨⟨(), rfl, trivial, ws_60, tys, hsm, htx, by rw [ht]; exact hP, va_K.moved hW.alike hK, hD, ⟨f_78, e_79, h_82, by rw [if_pos c_1]; exact e_80⟩⟩, hS.F ht⟩) hS.2.2 dX1_fillInto_51
  have hlt : i < 40 := i_lt_of hi (by omega) rfl c_84
  refine lv_aload_n hx hb dX1_fillInto_34 rfl (lv_at hl 2 rfl) ?_
  refine lv_iload_n hx hb dX1_fillInto_35 rfl (lv_at hl 0 rfl) ?_
  refine lv_aload_n hx hb dX1_fillInto_36 rfl (lv_at hl 1 rfl) ?_
  refine va_get (D := D) (ci := 1) (v := .ref dg) (C := RX1) (T := TX1) (N := 2) hx hb hts hin1 hown hK hP kd e_64 rfl 0 (by decide) (hts (.fieldLink RX1 9 "HoneyHouse$Draught" "grams" "[I") (List.mem_of_getElem? (i := 7) rfl)) (fun _ h9 => h9) rfl dX1_fillInto_37 ?_
  refine lv_iload_n hx hb dX1_fillInto_40 rfl (lv_at hl 0 rfl) ?_
  refine va_iald (f := fd) (n := 40) hx hb hK hP kdg tdg e_81 udg (vp_in_nI hlt (by omega)) dX1_fillInto_41 ?_
  have hFc := free_all hD hS hA
  refine va_callv (va_runV (As := [.int (nI i), .int (fd (nI i).toNatClampNeg)]) (rest := []) ⟨hx, hb, hml, hown, hts⟩ (a_addGrams l D (rz [kg, kv]) ws_60 tys v kv (sm1 f_78 40) a2 vr vp g kg cg tg f_78 (nI i) (fd (nI i).toNatClampNeg) H.size (nI_pos (by omega)) (show ¬ (40 : Int32) ≤ _ from nI_ge (a := i) (b := 40) hlt (by omega)) e_80 e_79 ug (rz_in (by simp)) (rz_in (by simp))) (cwV 2 hts gX1_fillInto_X7_addGrams rfl rfl rfl (by decide +kernel) ⟨Nat.le_of_ble_eq_true rfl, Nat.le_of_ble_eq_true rfl⟩) ⟨fun a U g mk q => by obtain ⟨q0, q1, qP, qK, qD⟩ := q; exact ⟨q0, q1, qP, va_K.moved (u := U) (U := U.calling g mk a) (Vm.Alike.refl U.vm) qK, qD⟩, va_recv hK hP (ci := 7) (q0 := kv) rfl e_80, fun U hU hW => ⟨rfl, by rw [hU], by rw [hU]; exact hP, va_K.moved hW.alike hK, hD.weaken (fun _ _ _ _ => trivial)⟩⟩ rfl rfl hl.1 rfl (lv_room (Nat.le_of_ble_eq_true rfl)) dX1_fillInto_42 ⟨Nat.le_of_ble_eq_true rfl, Nat.le_of_ble_eq_true rfl⟩) hS (fun q _ h => hFc q h) hFc (fun u t H1 locs ht hvm w_85 hB hz1 hk1 hS => ?_)
  obtain ⟨ws_86, ty_87, hm_88, ht_90, hP1, hK1, hD1, hx_89⟩ := hB
  rw [ht] at hP1
  have hK := va_K.moved hvm.symm hK1
  have hD := hD1.weaken (fun _ _ _ h => hFc _ h)
  generalize H1 = H at hP1 hS ⊢
  have hP := hP1
  have e_91 := hm_88.keep (rz_o2 (pl_ne e_64 e_79 (by intro h9; simp at h9)) (pl_ne e_64 e_80 (by intro h9; simp at h9))) e_64
  have e_92 := hm_88.keep (rz_o2 (fun h9 => n1 h9.symm) (pl_ne e_81 e_80 (by intro h9; simp at h9))) e_81
  have e_93 := hm_88.keep (rz_o2 (pl_ne e_67 e_79 (by intro h9; simp at h9)) (pl_ne e_67 e_80 (by intro h9; simp at h9))) e_67
  have u_94 := ht_90 _ _ udg
  have u_95 := ht_90 _ _ udq
  have u_96 := ht_90 _ _ ug
  have hm_97 : sm ρ [7] ws_60 ws_86 := hm_88.up (fun k _ h => rz_u2 w_kg w_kv k h)
  have hsm := hsm.tr (hm_97.mono (by decide))
  have hlp_62 := hlp_62.tr (hm_97.mono (by decide))
  have htx := htx.tr ht_90
  obtain ⟨e_98, f_99, e_100, hf_101⟩ := hx_89
  refine lv_iinc (v := nI (i + 1)) (lv' := [(3, .int (nI (i + 1))), (0, .ref d), (1, .ref v), (2, .int a2)]) hx hb dX1_fillInto_45 hl (k := 0) rfl (nI_1 i) (by decide) rfl (fun ls hl => ?_)
  refine lv_goto (tgt := 25) hx hb dX1_fillInto_48 (by decide) ?_
  rw [nI_clamp (n := i) (by omega)] at e_98 hf_101
  exact ih hlt () _ _ _ ls ⟨hlp_62, ⟨f_99, e_100, by rw [hf_101, sm1_u 40 hlt]; exact e_98, e_92, by rw [hf_101]; exact fl_s h_82 h_83 hlt, by rw [hf_101]; exact un_s h_83⟩⟩ hP hD hS (lv_sub hl [0, 1, 2, 3] rfl)
