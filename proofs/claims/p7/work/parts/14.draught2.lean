theorem dX1_fillInto_0 : decode cX1_fillInto 0 = .ok (.aload_n 1, 1) := by decide +kernel
theorem dX1_fillInto_1 : decode cX1_fillInto 1 = .ok (.aload_n 1, 1) := by decide +kernel
theorem dX1_fillInto_2 : decode cX1_fillInto 2 = .ok (.getfield 29, 3) := by decide +kernel
theorem dX1_fillInto_5 : decode cX1_fillInto 5 = .ok (.ifCond .ne 7, 3) := by decide +kernel
theorem dX1_fillInto_8 : decode cX1_fillInto 8 = .ok (.iload_n 2, 1) := by decide +kernel
theorem dX1_fillInto_9 : decode cX1_fillInto 9 = .ok (.goto 11, 3) := by decide +kernel
theorem dX1_fillInto_12 : decode cX1_fillInto 12 = .ok (.aload_n 1, 1) := by decide +kernel
theorem dX1_fillInto_13 : decode cX1_fillInto 13 = .ok (.getfield 33, 3) := by decide +kernel
theorem dX1_fillInto_16 : decode cX1_fillInto 16 = .ok (.iload_n 2, 1) := by decide +kernel
theorem dX1_fillInto_17 : decode cX1_fillInto 17 = .ok (.invokestatic 36, 3) := by decide +kernel
theorem dX1_fillInto_20 : decode cX1_fillInto 20 = .ok (.putfield 33, 3) := by decide +kernel
theorem dX1_fillInto_23 : decode cX1_fillInto 23 = .ok (.iconst 0, 1) := by decide +kernel
theorem dX1_fillInto_24 : decode cX1_fillInto 24 = .ok (.istore_n 3, 1) := by decide +kernel
theorem dX1_fillInto_25 : decode cX1_fillInto 25 = .ok (.iload_n 3, 1) := by decide +kernel
theorem dX1_fillInto_26 : decode cX1_fillInto 26 = .ok (.aload_n 0, 1) := by decide +kernel
theorem dX1_fillInto_27 : decode cX1_fillInto 27 = .ok (.getfield 9, 3) := by decide +kernel
theorem dX1_fillInto_30 : decode cX1_fillInto 30 = .ok (.arraylength, 1) := by decide +kernel
theorem dX1_fillInto_31 : decode cX1_fillInto 31 = .ok (.if_icmp .ge 20, 3) := by decide +kernel
theorem dX1_fillInto_34 : decode cX1_fillInto 34 = .ok (.aload_n 1, 1) := by decide +kernel
theorem dX1_fillInto_35 : decode cX1_fillInto 35 = .ok (.iload_n 3, 1) := by decide +kernel
theorem dX1_fillInto_36 : decode cX1_fillInto 36 = .ok (.aload_n 0, 1) := by decide +kernel
theorem dX1_fillInto_37 : decode cX1_fillInto 37 = .ok (.getfield 9, 3) := by decide +kernel
theorem dX1_fillInto_40 : decode cX1_fillInto 40 = .ok (.iload_n 3, 1) := by decide +kernel
theorem dX1_fillInto_41 : decode cX1_fillInto 41 = .ok (.iaload, 1) := by decide +kernel
theorem dX1_fillInto_42 : decode cX1_fillInto 42 = .ok (.invokevirtual 23, 3) := by decide +kernel
theorem dX1_fillInto_45 : decode cX1_fillInto 45 = .ok (.iinc 3 1, 3) := by decide +kernel
theorem dX1_fillInto_48 : decode cX1_fillInto 48 = .ok (.goto (-23), 3) := by decide +kernel
theorem dX1_fillInto_51 : decode cX1_fillInto 51 = .ok (.return_, 1) := by decide +kernel
theorem dX1_shareOut_0 : decode cX1_shareOut 0 = .ok (.aload_n 0, 1) := by decide +kernel
theorem dX1_shareOut_1 : decode cX1_shareOut 1 = .ok (.getfield 9, 3) := by decide +kernel
theorem dX1_shareOut_4 : decode cX1_shareOut 4 = .ok (.iconst 0, 1) := by decide +kernel
theorem dX1_shareOut_5 : decode cX1_shareOut 5 = .ok (.invokestatic 42, 3) := by decide +kernel
theorem dX1_shareOut_8 : decode cX1_shareOut 8 = .ok (.aload_n 1, 1) := by decide +kernel
theorem dX1_shareOut_9 : decode cX1_shareOut 9 = .ok (.getfield 29, 3) := by decide +kernel
theorem dX1_shareOut_12 : decode cX1_shareOut 12 = .ok (.ifCond .gt 4, 3) := by decide +kernel
theorem dX1_shareOut_15 : decode cX1_shareOut 15 = .ok (.return_, 1) := by decide +kernel
theorem dX1_shareOut_16 : decode cX1_shareOut 16 = .ok (.iload_n 2, 1) := by decide +kernel
theorem dX1_shareOut_17 : decode cX1_shareOut 17 = .ok (.istore_n 3, 1) := by decide +kernel
theorem dX1_shareOut_18 : decode cX1_shareOut 18 = .ok (.iconst 0, 1) := by decide +kernel
theorem dX1_shareOut_19 : decode cX1_shareOut 19 = .ok (.istore 4, 2) := by decide +kernel
theorem dX1_shareOut_21 : decode cX1_shareOut 21 = .ok (.iload 4, 2) := by decide +kernel
theorem dX1_shareOut_23 : decode cX1_shareOut 23 = .ok (.aload_n 0, 1) := by decide +kernel
theorem dX1_shareOut_24 : decode cX1_shareOut 24 = .ok (.getfield 9, 3) := by decide +kernel
theorem dX1_shareOut_27 : decode cX1_shareOut 27 = .ok (.arraylength, 1) := by decide +kernel
theorem dX1_shareOut_28 : decode cX1_shareOut 28 = .ok (.if_icmp .ge 62, 3) := by decide +kernel
theorem dX1_shareOut_31 : decode cX1_shareOut 31 = .ok (.iload_n 2, 1) := by decide +kernel
theorem dX1_shareOut_32 : decode cX1_shareOut 32 = .ok (.i2l, 1) := by decide +kernel
theorem dX1_shareOut_33 : decode cX1_shareOut 33 = .ok (.aload_n 1, 1) := by decide +kernel
theorem dX1_shareOut_34 : decode cX1_shareOut 34 = .ok (.iload 4, 2) := by decide +kernel
theorem dX1_shareOut_36 : decode cX1_shareOut 36 = .ok (.invokevirtual 48, 3) := by decide +kernel
theorem dX1_shareOut_39 : decode cX1_shareOut 39 = .ok (.i2l, 1) := by decide +kernel
theorem dX1_shareOut_40 : decode cX1_shareOut 40 = .ok (.lmul, 1) := by decide +kernel
theorem dX1_shareOut_41 : decode cX1_shareOut 41 = .ok (.lstore 5, 2) := by decide +kernel
theorem dX1_shareOut_43 : decode cX1_shareOut 43 = .ok (.aload_n 0, 1) := by decide +kernel
theorem dX1_shareOut_44 : decode cX1_shareOut 44 = .ok (.getfield 9, 3) := by decide +kernel
theorem dX1_shareOut_47 : decode cX1_shareOut 47 = .ok (.iload 4, 2) := by decide +kernel
theorem dX1_shareOut_49 : decode cX1_shareOut 49 = .ok (.lload 5, 2) := by decide +kernel
theorem dX1_shareOut_51 : decode cX1_shareOut 51 = .ok (.aload_n 1, 1) := by decide +kernel
theorem dX1_shareOut_52 : decode cX1_shareOut 52 = .ok (.getfield 29, 3) := by decide +kernel
theorem dX1_shareOut_55 : decode cX1_shareOut 55 = .ok (.i2l, 1) := by decide +kernel
theorem dX1_shareOut_56 : decode cX1_shareOut 56 = .ok (.ldiv, 1) := by decide +kernel
theorem dX1_shareOut_57 : decode cX1_shareOut 57 = .ok (.l2i, 1) := by decide +kernel
theorem dX1_shareOut_58 : decode cX1_shareOut 58 = .ok (.iastore, 1) := by decide +kernel
theorem dX1_shareOut_59 : decode cX1_shareOut 59 = .ok (.aload_n 0, 1) := by decide +kernel
theorem dX1_shareOut_60 : decode cX1_shareOut 60 = .ok (.getfield 15, 3) := by decide +kernel
theorem dX1_shareOut_63 : decode cX1_shareOut 63 = .ok (.iload 4, 2) := by decide +kernel
theorem dX1_shareOut_65 : decode cX1_shareOut 65 = .ok (.lload 5, 2) := by decide +kernel
theorem dX1_shareOut_67 : decode cX1_shareOut 67 = .ok (.aload_n 1, 1) := by decide +kernel
theorem dX1_shareOut_68 : decode cX1_shareOut 68 = .ok (.getfield 29, 3) := by decide +kernel
theorem dX1_shareOut_71 : decode cX1_shareOut 71 = .ok (.i2l, 1) := by decide +kernel
theorem dX1_shareOut_72 : decode cX1_shareOut 72 = .ok (.lrem, 1) := by decide +kernel
theorem dX1_shareOut_73 : decode cX1_shareOut 73 = .ok (.lastore, 1) := by decide +kernel
theorem dX1_shareOut_74 : decode cX1_shareOut 74 = .ok (.iload_n 3, 1) := by decide +kernel
theorem dX1_shareOut_75 : decode cX1_shareOut 75 = .ok (.aload_n 0, 1) := by decide +kernel
theorem dX1_shareOut_76 : decode cX1_shareOut 76 = .ok (.getfield 9, 3) := by decide +kernel
theorem dX1_shareOut_79 : decode cX1_shareOut 79 = .ok (.iload 4, 2) := by decide +kernel
theorem dX1_shareOut_81 : decode cX1_shareOut 81 = .ok (.iaload, 1) := by decide +kernel
theorem dX1_shareOut_82 : decode cX1_shareOut 82 = .ok (.isub, 1) := by decide +kernel
theorem dX1_shareOut_83 : decode cX1_shareOut 83 = .ok (.istore_n 3, 1) := by decide +kernel
theorem dX1_shareOut_84 : decode cX1_shareOut 84 = .ok (.iinc 4 1, 3) := by decide +kernel
theorem dX1_shareOut_87 : decode cX1_shareOut 87 = .ok (.goto (-66), 3) := by decide +kernel
theorem dX1_shareOut_90 : decode cX1_shareOut 90 = .ok (.iconst 0, 1) := by decide +kernel
theorem dX1_shareOut_91 : decode cX1_shareOut 91 = .ok (.istore 4, 2) := by decide +kernel
theorem dX1_shareOut_93 : decode cX1_shareOut 93 = .ok (.iload 4, 2) := by decide +kernel
theorem dX1_shareOut_95 : decode cX1_shareOut 95 = .ok (.aload_n 0, 1) := by decide +kernel
theorem dX1_shareOut_96 : decode cX1_shareOut 96 = .ok (.getfield 15, 3) := by decide +kernel
theorem dX1_shareOut_99 : decode cX1_shareOut 99 = .ok (.arraylength, 1) := by decide +kernel
theorem dX1_shareOut_100 : decode cX1_shareOut 100 = .ok (.if_icmp .ge 42, 3) := by decide +kernel
theorem dX1_shareOut_103 : decode cX1_shareOut 103 = .ok (.iload 4, 2) := by decide +kernel
theorem dX1_shareOut_105 : decode cX1_shareOut 105 = .ok (.iload_n 3, 1) := by decide +kernel
theorem dX1_shareOut_106 : decode cX1_shareOut 106 = .ok (.if_icmp .ge 36, 3) := by decide +kernel
theorem dX1_shareOut_109 : decode cX1_shareOut 109 = .ok (.aload_n 0, 1) := by decide +kernel
theorem dX1_shareOut_110 : decode cX1_shareOut 110 = .ok (.invokevirtual 52, 3) := by decide +kernel
theorem dX1_shareOut_113 : decode cX1_shareOut 113 = .ok (.istore 5, 2) := by decide +kernel
theorem dX1_shareOut_115 : decode cX1_shareOut 115 = .ok (.aload_n 0, 1) := by decide +kernel
theorem dX1_shareOut_116 : decode cX1_shareOut 116 = .ok (.getfield 9, 3) := by decide +kernel
theorem dX1_shareOut_119 : decode cX1_shareOut 119 = .ok (.iload 5, 2) := by decide +kernel
theorem dX1_shareOut_121 : decode cX1_shareOut 121 = .ok (.dup2, 1) := by decide +kernel
theorem dX1_shareOut_122 : decode cX1_shareOut 122 = .ok (.iaload, 1) := by decide +kernel
theorem dX1_shareOut_123 : decode cX1_shareOut 123 = .ok (.iconst 1, 1) := by decide +kernel
theorem dX1_shareOut_124 : decode cX1_shareOut 124 = .ok (.iadd, 1) := by decide +kernel
theorem dX1_shareOut_125 : decode cX1_shareOut 125 = .ok (.iastore, 1) := by decide +kernel
theorem dX1_shareOut_126 : decode cX1_shareOut 126 = .ok (.aload_n 0, 1) := by decide +kernel
theorem dX1_shareOut_127 : decode cX1_shareOut 127 = .ok (.getfield 15, 3) := by decide +kernel
theorem dX1_shareOut_130 : decode cX1_shareOut 130 = .ok (.iload 5, 2) := by decide +kernel
theorem dX1_shareOut_132 : decode cX1_shareOut 132 = .ok (.ldc2_w 56, 3) := by decide +kernel
theorem dX1_shareOut_135 : decode cX1_shareOut 135 = .ok (.lastore, 1) := by decide +kernel
theorem dX1_shareOut_136 : decode cX1_shareOut 136 = .ok (.iinc 4 1, 3) := by decide +kernel
theorem dX1_shareOut_139 : decode cX1_shareOut 139 = .ok (.goto (-46), 3) := by decide +kernel
theorem dX1_shareOut_142 : decode cX1_shareOut 142 = .ok (.return_, 1) := by decide +kernel
theorem dX1_drawFrom_0 : decode cX1_drawFrom 0 = .ok (.aload_n 0, 1) := by decide +kernel
theorem dX1_drawFrom_1 : decode cX1_drawFrom 1 = .ok (.aload_n 1, 1) := by decide +kernel
theorem dX1_drawFrom_2 : decode cX1_drawFrom 2 = .ok (.iload_n 2, 1) := by decide +kernel
theorem dX1_drawFrom_3 : decode cX1_drawFrom 3 = .ok (.invokevirtual 19, 3) := by decide +kernel
theorem dX1_drawFrom_6 : decode cX1_drawFrom 6 = .ok (.iconst 0, 1) := by decide +kernel
theorem dX1_drawFrom_7 : decode cX1_drawFrom 7 = .ok (.istore_n 3, 1) := by decide +kernel
theorem dX1_drawFrom_8 : decode cX1_drawFrom 8 = .ok (.iload_n 3, 1) := by decide +kernel
theorem dX1_drawFrom_9 : decode cX1_drawFrom 9 = .ok (.aload_n 0, 1) := by decide +kernel
theorem dX1_drawFrom_10 : decode cX1_drawFrom 10 = .ok (.getfield 9, 3) := by decide +kernel
theorem dX1_drawFrom_13 : decode cX1_drawFrom 13 = .ok (.arraylength, 1) := by decide +kernel
theorem dX1_drawFrom_14 : decode cX1_drawFrom 14 = .ok (.if_icmp .ge 21, 3) := by decide +kernel
theorem dX1_drawFrom_17 : decode cX1_drawFrom 17 = .ok (.aload_n 1, 1) := by decide +kernel
theorem dX1_drawFrom_18 : decode cX1_drawFrom 18 = .ok (.iload_n 3, 1) := by decide +kernel
theorem dX1_drawFrom_19 : decode cX1_drawFrom 19 = .ok (.aload_n 0, 1) := by decide +kernel
theorem dX1_drawFrom_20 : decode cX1_drawFrom 20 = .ok (.getfield 9, 3) := by decide +kernel
theorem dX1_drawFrom_23 : decode cX1_drawFrom 23 = .ok (.iload_n 3, 1) := by decide +kernel
theorem dX1_drawFrom_24 : decode cX1_drawFrom 24 = .ok (.iaload, 1) := by decide +kernel
theorem dX1_drawFrom_25 : decode cX1_drawFrom 25 = .ok (.ineg, 1) := by decide +kernel
theorem dX1_drawFrom_26 : decode cX1_drawFrom 26 = .ok (.invokevirtual 23, 3) := by decide +kernel
theorem dX1_drawFrom_29 : decode cX1_drawFrom 29 = .ok (.iinc 3 1, 3) := by decide +kernel
theorem dX1_drawFrom_32 : decode cX1_drawFrom 32 = .ok (.goto (-24), 3) := by decide +kernel
theorem dX1_drawFrom_35 : decode cX1_drawFrom 35 = .ok (.aload_n 1, 1) := by decide +kernel
theorem dX1_drawFrom_36 : decode cX1_drawFrom 36 = .ok (.getfield 29, 3) := by decide +kernel
theorem dX1_drawFrom_39 : decode cX1_drawFrom 39 = .ok (.ifCond .ne 8, 3) := by decide +kernel
theorem dX1_drawFrom_42 : decode cX1_drawFrom 42 = .ok (.aload_n 1, 1) := by decide +kernel
theorem dX1_drawFrom_43 : decode cX1_drawFrom 43 = .ok (.iconst 0, 1) := by decide +kernel
theorem dX1_drawFrom_44 : decode cX1_drawFrom 44 = .ok (.putfield 33, 3) := by decide +kernel
theorem dX1_drawFrom_47 : decode cX1_drawFrom 47 = .ok (.return_, 1) := by decide +kernel
set_option maxRecDepth 20000 in
theorem ggX1_fillInto_X7_addGrams : GoodIn wsX1_fillInto wsX7_addGrams := goodIn_r _ [12, 13, 14, 15, 16, 17, 18, 19] (by decide +kernel) (by decide +kernel)
set_option maxRecDepth 20000 in
theorem gX1_fillInto_X7_addGrams : GoodIn wsX1_fillInto (wsV RX1 23 RX7 yX7_addGrams wsX7_addGrams) := goodIn_app (goodIn_of _ (by decide +kernel)) ggX1_fillInto_X7_addGrams
set_option maxRecDepth 20000 in
theorem ggX1_shareOut_J7_fill_53178 : GoodIn wsX1_shareOut wsJ7_fill_53178 := goodIn_r _ [8] (by decide +kernel) (by decide +kernel)
set_option maxRecDepth 20000 in
theorem gX1_shareOut_J7_fill_53178 : GoodIn wsX1_shareOut (va_wsS RX1 42 yJ7_fill_53178 wsJ7_fill_53178) := goodIn_app (goodIn_of _ (by decide +kernel)) ggX1_shareOut_J7_fill_53178
set_option maxRecDepth 20000 in
theorem ggX1_shareOut_X1_greatestRest : GoodIn wsX1_shareOut wsX1_greatestRest := goodIn_r _ [19, 3, 20, 21] (by decide +kernel) (by decide +kernel)
set_option maxRecDepth 20000 in
theorem gX1_shareOut_X1_greatestRest : GoodIn wsX1_shareOut (wsV RX1 52 RX1 yX1_greatestRest wsX1_greatestRest) := goodIn_app (goodIn_of _ (by decide +kernel)) ggX1_shareOut_X1_greatestRest
set_option maxRecDepth 20000 in
theorem ggX1_shareOut_X7_gramsOf : GoodIn wsX1_shareOut wsX7_gramsOf := goodIn_r _ [13, 14, 22, 23, 24, 25, 26] (by decide +kernel) (by decide +kernel)
set_option maxRecDepth 20000 in
theorem gX1_shareOut_X7_gramsOf : GoodIn wsX1_shareOut (wsV RX1 48 RX7 yX7_gramsOf wsX7_gramsOf) := goodIn_app (goodIn_of _ (by decide +kernel)) ggX1_shareOut_X7_gramsOf
set_option maxRecDepth 20000 in
theorem ggX1_drawFrom_X1_shareOut : GoodIn wsX1_drawFrom wsX1_shareOut := goodIn_r _ [8, 1, 2, 9, 10, 11, 12, 13, 14, 15, 16, 17, 18, 19, 20, 21, 22, 23, 7, 24, 30, 31, 32, 33, 34, 35, 36] (by decide +kernel) (by decide +kernel)
set_option maxRecDepth 20000 in
theorem gX1_drawFrom_X1_shareOut : GoodIn wsX1_drawFrom (wsV RX1 19 RX1 yX1_shareOut wsX1_shareOut) := goodIn_app (goodIn_of _ (by decide +kernel)) ggX1_drawFrom_X1_shareOut
set_option maxRecDepth 20000 in
theorem ggX1_drawFrom_X7_addGrams : GoodIn wsX1_drawFrom wsX7_addGrams := goodIn_r _ [28, 20, 29, 32, 33, 34, 35, 36] (by decide +kernel) (by decide +kernel)
set_option maxRecDepth 20000 in
theorem gX1_drawFrom_X7_addGrams : GoodIn wsX1_drawFrom (wsV RX1 23 RX7 yX7_addGrams wsX7_addGrams) := goodIn_app (goodIn_of _ (by decide +kernel)) ggX1_drawFrom_X7_addGrams
set_option maxHeartbeats 4000000 in
set_option maxRecDepth 100000 in
theorem a_fillInto (l : Launch) (D : va_G) (ρ : Nat → Nat) (ws : va_W) (tys : List (ClassId × FieldType)) (d kd : Nat) (dg kdg : Nat) (cdg : ClassId) (tdg : Nat) (fd : Nat → Int32) (dq kdq : Nat) (cdq : ClassId) (tdq : Nat) (fq : Nat → Int64) (v kv : Nat) (vt vh vr vp : Int32) (g kg : Nat) (cg : ClassId) (tg : Nat) (f : Nat → Int32) (a2 : Int32) (sz : Nat) (ed : ws[kd]? = some (d, .inr (1, [.ref dg, .ref dq]))) (edg : ws[kdg]? = some (dg, .inl (cdg, 40, .inl fd))) (udg : tys[tdg]? = some (cdg, .int)) (edq : ws[kdq]? = some (dq, .inl (cdq, 40, .inr (.inl fq)))) (udq : tys[tdq]? = some (cdq, .long)) (ev : ws[kv]? = some (v, .inr (7, [.ref g, .int vt, .int vh, .int vr, .int vp]))) (eg : ws[kg]? = some (g, .inl (cg, 40, .inl f))) (ug : tys[tg]? = some (cg, .int)) (w_kv : ρ kv = 0) (w_kg : ρ kg = 0) : Met l yX1_fillInto wsX1_fillInto ({ frames := 1, cells := 0, slots := 0, locals := 40 }) (va_Pc [.ref d, .ref v, .int a2] (fun U => U.heap.size = sz ∧ va_P D vwCl ws U.heap ∧ va_K D vwCl tys U ∧ va_D (fun _ => True) ws)) (va_Qv (fun _ : Unit => True) (fun (_ : Unit) (t : State) => ∃ (ws' : va_W) (tys' : List (ClassId × FieldType)), sm ρ [7] ws ws' ∧ tyx tys tys' ∧ va_P D vwCl ws' t.heap ∧ va_K D vwCl tys' t ∧ va_D (va_A ws sz) ws' ∧ (True)) (va_A ws sz)) 0 0 (va_A ws sz) := by
  refine Met.ofW (cc := cX1_fillInto) (maxL := 4) (ret := none) (by decide) rfl ?_
  intro p e s m args below meth c s₁ B hml hv
  obtain ⟨rfl, hsz, hP, hK, hD0⟩ := hv
  have hx := B.exec
  have hb := B.bytes
  have hr := B.returns
  have hts := atoms_spec (ws := wsX1_fillInto) B.pre
  have hown : s.vm.findClass RX1 = some m.cls := findClass_of_methodNamed B.named
  have hlocks := B.notSynchronized
  subst hsz
  have hD := hD0.self (sz := s.heap.size)
  generalize hAe : va_A ws s.heap.size = A at hD ⊢
  have hA : ∀ q : Nat, s.heap.size ≤ q → A q := fun q h => by rw [← hAe]; exact Or.inr h
  have hS : va_S A s.heap s.heap [] := va_S.rf
  have hsm : sm ρ [7] ws ws := sm.rf ws
  have htx : tyx tys tys := tyx.rf tys
  have hin1 : ∀ w ∈ u_ws RX1 TX1 2, w ∈ wsX1_fillInto := (fun _ h9 => List.mem_cons_of_mem _ ((List.mem_append_right _ h9)))
  have hin7 : ∀ w ∈ u_ws RX7 TX7 5, w ∈ wsX1_fillInto := (fun _ h9 => List.mem_cons_of_mem _ (List.mem_append_left _ ((List.mem_append_right _ h9))))
  have hl := lv_entry ([.ref d, .ref v, .int a2]) (n := 4) (Nat.le_of_ble_eq_true rfl)
  rw [lg_entry_eq]
  generalize (lg_sl ([.ref d, .ref v, .int a2]) ++ List.replicate (4 - (lg_sl ([.ref d, .ref v, .int a2])).length) Slot.unset).toArray = ls at hl ⊢
  have hl : lv_has ls 4 [(0, .ref d), (1, .ref v), (2, .int a2)] := hl
  refine lv_aload_n hx hb dX1_fillInto_0 rfl (lv_at hl 1 rfl) ?_
  refine lv_aload_n hx hb dX1_fillInto_1 rfl (lv_at hl 1 rfl) ?_
  refine va_get (D := D) (ci := 7) (v := .int vt) (C := RX7) (T := TX7) (N := 5) hx hb hts hin7 hown hK hP kv ev rfl 1 (by decide) (hts (.fieldLink RX1 29 "HoneyHouse$Vessel" "total" "I") (List.mem_of_getElem? (i := 1) rfl)) (fun _ h9 => h9) rfl dX1_fillInto_2 ?_
  refine lv_if_ne (tgt := 12) hx hb dX1_fillInto_5 (by decide) (fun c_1 => ?_) (fun c_1 => ?_)
  · refine lv_aload_n hx hb dX1_fillInto_12 rfl (lv_at hl 1 rfl) ?_
    refine va_get (D := D) (ci := 7) (v := .int vh) (C := RX7) (T := TX7) (N := 5) hx hb hts hin7 hown hK hP kv ev rfl 2 (by decide) (hts (.fieldLink RX1 33 "HoneyHouse$Vessel" "heat" "I") (List.mem_of_getElem? (i := 2) rfl)) (fun _ h9 => h9) rfl dX1_fillInto_13 ?_
    refine lv_iload_n hx hb dX1_fillInto_16 rfl (lv_at hl 2 rfl) ?_
    refine va_mmax hx hb (by rw [hml]; exact hl.1.symm) hown (hts (.methodLink RX1 36 Lib.Math.max.name) (List.mem_of_getElem? (i := 3) rfl)) (hts (.static Lib.Math.max.name) (List.mem_of_getElem? (i := 4) rfl)) (hts (.initialized "java/lang/Math") (List.mem_of_getElem? (i := 5) rfl)) (hts (.code Lib.Math.max.name Lib.Math.max.code 2 (some .int)) (List.mem_of_getElem? (i := 6) rfl)) (Nat.le_of_ble_eq_true rfl) (Nat.le_of_ble_eq_true rfl) (Nat.le_of_ble_eq_true rfl) (Nat.le_of_ble_eq_true rfl) dX1_fillInto_17 ?_
    refine lv_topi (fun z_2 _ => ?_)
    refine va_put (D := D) (ci := 7) (v := .int z_2) (ty := .int) (C := RX7) (T := TX7) (N := 5) hx hb hts hin7 tyX7 tyX7_ok nmX7 hown hK hP hD hS kv ev rfl 2 (by decide) (hts (.fieldLink RX1 33 "HoneyHouse$Vessel" "heat" "I") (List.mem_of_getElem? (i := 2) rfl)) (fun _ h9 => h9) rfl (tyX7_ok 2 (by decide)) rfl rfl (Nat.le_of_ble_eq_true rfl) dX1_fillInto_20 (fun H locs hP hD hS => ?_)
    have hP : va_P D vwCl (ws.set kv (v, .inr (7, [.ref g, .int vt, .int z_2, .int vr, .int vp]))) H := hP
    have hD : va_D A (ws.set kv (v, .inr (7, [.ref g, .int vt, .int z_2, .int vr, .int vp]))) := hD
    have hm_4 : sm ρ [7] ws (ws.set kv (v, .inr (7, [.ref g, .int vt, .int z_2, .int vr, .int vp]))) := sm.flds ev (smF.c (smV.rf _) (smF.c (smV.rf _) (smF.c (smV.i _ _) (smF.c (smV.rf _) (smF.c (smV.rf _) (rfl)))))) (List.mem_singleton.mpr rfl) w_kv
    have e_5 : (ws.set kv (v, .inr (7, [.ref g, .int vt, .int z_2, .int vr, .int vp])))[kv]? = some (v, .inr (7, [.ref g, .int vt, .int z_2, .int vr, .int vp])) := wset_self ev
    generalize ws.set kv (v, .inr (7, [.ref g, .int vt, .int z_2, .int vr, .int vp])) = ws_3 at hP hD hm_4 e_5
    have e_6 := hm_4.objK ed (by decide)
    obtain ⟨f_8, e_7⟩ := hm_4.arrI edg
    obtain ⟨f_10, e_9⟩ := hm_4.arrJ edq
    obtain ⟨f_12, e_11⟩ := hm_4.arrI eg
    have hsm := hsm.tr (hm_4.mono (by decide))
    refine lv_iconst (v := 0) hx hb dX1_fillInto_23 (by decide) ?_
    refine lv_istore_n (lv' := [(3, .int 0), (0, .ref d), (1, .ref v), (2, .int a2)]) hx hb dX1_fillInto_24 rfl hl (by decide) rfl (fun ls hl => ?_)
    refine lp_A (nL := 4) (N := 40) (σ := Unit) (lv := fun i x_16 => [(3, .int (nI i)), (0, .ref d), (1, .ref v), (2, .int a2)]) (J := fun i9 _ w9 => sm ρ [7] ws_3 w9) (fun i hi ih x_16 ws_13 H locs ls hj_14 hP hD hS hl => ?_) 0 (by omega) () _ _ _ ls (sm.rf _) hP hD hS (lv_sub hl [0, 1, 2, 3] rfl)
    have hl : lv_has ls 4 [(3, .int (nI i)), (0, .ref d), (1, .ref v), (2, .int a2)] := hl
    have e_17 := hj_14.objK e_6 (by decide)
    obtain ⟨f_19, e_18⟩ := hj_14.arrI e_7
    obtain ⟨f_21, e_20⟩ := hj_14.arrJ e_9
    obtain ⟨g_23, e_22, h_24⟩ := hj_14.obj e_5
    obtain ⟨z_25, z_26, z_27, z_28, rfl⟩ := smX7 h_24
    obtain ⟨f_30, e_29⟩ := hj_14.arrI e_11
    have hsm := hsm.tr (hj_14.mono (by decide))
    have hlp_15 := hj_14
    refine lv_iload_n hx hb dX1_fillInto_25 rfl (lv_at hl 0 rfl) ?_
    refine lv_aload_n hx hb dX1_fillInto_26 rfl (lv_at hl 1 rfl) ?_
    refine va_get (D := D) (ci := 1) (v := .ref dg) (C := RX1) (T := TX1) (N := 2) hx hb hts hin1 hown hK hP kd e_17 rfl 0 (by decide) (hts (.fieldLink RX1 9 "HoneyHouse$Draught" "grams" "[I") (List.mem_of_getElem? (i := 7) rfl)) (fun _ h9 => h9) rfl dX1_fillInto_27 ?_
    refine va_alen (v := 40) hx hb hK hP kdg tdg e_18 udg rfl dX1_fillInto_30 ?_
    refine lv_icmp_ge (tgt := 51) hx hb dX1_fillInto_31 (by decide) (fun c_31 => ?_) (fun c_31 => ?_)
    · exact W.vret hx hb hr (fun t ht hW => ⟨⟨(), rfl, trivial, ws_13, tys, hsm, htx, by rw [ht]; exact hP, va_K.moved hW.alike hK, hD, trivial⟩, hS.F ht⟩) hS.2.2 dX1_fillInto_51
    have hlt : i < 40 := i_lt_of hi (by omega) rfl c_31
    refine lv_aload_n hx hb dX1_fillInto_34 rfl (lv_at hl 2 rfl) ?_
    refine lv_iload_n hx hb dX1_fillInto_35 rfl (lv_at hl 0 rfl) ?_
    refine lv_aload_n hx hb dX1_fillInto_36 rfl (lv_at hl 1 rfl) ?_
    refine va_get (D := D) (ci := 1) (v := .ref dg) (C := RX1) (T := TX1) (N := 2) hx hb hts hin1 hown hK hP kd e_17 rfl 0 (by decide) (hts (.fieldLink RX1 9 "HoneyHouse$Draught" "grams" "[I") (List.mem_of_getElem? (i := 7) rfl)) (fun _ h9 => h9) rfl dX1_fillInto_37 ?_
    refine lv_iload_n hx hb dX1_fillInto_40 rfl (lv_at hl 0 rfl) ?_
    refine va_iald (f := f_19) (n := 40) hx hb hK hP kdg tdg e_18 udg (vp_in_nI hlt (by omega)) dX1_fillInto_41 ?_
    have hFc := free_all hD hS hA
    refine va_callv (va_runV (As := [.int (nI i), .int (f_19 (nI i).toNatClampNeg)]) (rest := []) ⟨hx, hb, hml, hown, hts⟩ (a_addGrams l D ρ ws_13 tys v kv z_25 z_26 z_27 z_28 g kg cg tg f_30 (nI i) (f_19 (nI i).toNatClampNeg) H.size e_22 e_29 ug w_kg w_kv) (cwV 2 hts gX1_fillInto_X7_addGrams rfl rfl rfl (by decide +kernel) ⟨Nat.le_of_ble_eq_true rfl, Nat.le_of_ble_eq_true rfl⟩) ⟨fun a U g mk q => by obtain ⟨q0, q1, qP, qK, qD⟩ := q; exact ⟨q0, q1, qP, va_K.moved (u := U) (U := U.calling g mk a) (Vm.Alike.refl U.vm) qK, qD⟩, va_recv hK hP (ci := 7) (q0 := kv) rfl e_22, fun U hU hW => ⟨rfl, by rw [hU], by rw [hU]; exact hP, va_K.moved hW.alike hK, hD.weaken (fun _ _ _ _ => trivial)⟩⟩ rfl rfl hl.1 rfl (lv_room (Nat.le_of_ble_eq_true rfl)) dX1_fillInto_42 ⟨Nat.le_of_ble_eq_true rfl, Nat.le_of_ble_eq_true rfl⟩) hS (fun q _ h => hFc q h) hFc (fun u t H1 locs ht hvm w_33 hB hz1 hk1 hS => ?_)
    obtain ⟨ws_34, ty_35, hm_36, ht_38, hP1, hK1, hD1, hx_37⟩ := hB
    rw [ht] at hP1
    have hK := va_K.moved hvm.symm hK1
    have hD := hD1.weaken (fun _ _ _ h => hFc _ h)
    generalize H1 = H at hP1 hS ⊢
    have hP := hP1
    have e_39 := hm_36.objK e_17 (by decide)
    obtain ⟨f_41, e_40⟩ := hm_36.arrI e_18
    have u_42 := ht_38 _ _ udg
    obtain ⟨f_44, e_43⟩ := hm_36.arrJ e_20
    have u_45 := ht_38 _ _ udq
    obtain ⟨g_47, e_46, h_48⟩ := hm_36.obj e_22
    obtain ⟨z_49, z_50, z_51, z_52, rfl⟩ := smX7 h_48
    obtain ⟨f_54, e_53⟩ := hm_36.arrI e_29
    have u_55 := ht_38 _ _ ug
    have hsm := hsm.tr (hm_36.mono (by decide))
    have hlp_15 := hlp_15.tr (hm_36.mono (by decide))
    have htx := htx.tr ht_38
    refine lv_iinc (v := nI (i + 1)) (lv' := [(3, .int (nI (i + 1))), (0, .ref d), (1, .ref v), (2, .int a2)]) hx hb dX1_fillInto_45 hl (k := 0) rfl (nI_1 i) (by decide) rfl (fun ls hl => ?_)
    refine lv_goto (tgt := 25) hx hb dX1_fillInto_48 (by decide) ?_
    exact ih hlt () _ _ _ ls hlp_15 hP hD hS (lv_sub hl [0, 1, 2, 3] rfl)
  refine lv_iload_n hx hb dX1_fillInto_8 rfl (lv_at hl 2 rfl) ?_
  refine lv_goto (tgt := 20) hx hb dX1_fillInto_9 (by decide) ?_
  refine va_put (D := D) (ci := 7) (v := .int a2) (ty := .int) (C := RX7) (T := TX7) (N := 5) hx hb hts hin7 tyX7 tyX7_ok nmX7 hown hK hP hD hS kv ev rfl 2 (by decide) (hts (.fieldLink RX1 33 "HoneyHouse$Vessel" "heat" "I") (List.mem_of_getElem? (i := 2) rfl)) (fun _ h9 => h9) rfl (tyX7_ok 2 (by decide)) rfl rfl (Nat.le_of_ble_eq_true rfl) dX1_fillInto_20 (fun H locs hP hD hS => ?_)
  have hP : va_P D vwCl (ws.set kv (v, .inr (7, [.ref g, .int vt, .int a2, .int vr, .int vp]))) H := hP
  have hD : va_D A (ws.set kv (v, .inr (7, [.ref g, .int vt, .int a2, .int vr, .int vp]))) := hD
  have hm_57 : sm ρ [7] ws (ws.set kv (v, .inr (7, [.ref g, .int vt, .int a2, .int vr, .int vp]))) := sm.flds ev (smF.c (smV.rf _) (smF.c (smV.rf _) (smF.c (smV.i _ _) (smF.c (smV.rf _) (smF.c (smV.rf _) (rfl)))))) (List.mem_singleton.mpr rfl) w_kv
  have e_58 : (ws.set kv (v, .inr (7, [.ref g, .int vt, .int a2, .int vr, .int vp])))[kv]? = some (v, .inr (7, [.ref g, .int vt, .int a2, .int vr, .int vp])) := wset_self ev
  generalize ws.set kv (v, .inr (7, [.ref g, .int vt, .int a2, .int vr, .int vp])) = ws_56 at hP hD hm_57 e_58
  have e_59 := hm_57.objK ed (by decide)
  obtain ⟨f_61, e_60⟩ := hm_57.arrI edg
  obtain ⟨f_63, e_62⟩ := hm_57.arrJ edq
  obtain ⟨f_65, e_64⟩ := hm_57.arrI eg
  have hsm := hsm.tr (hm_57.mono (by decide))
  refine lv_iconst (v := 0) hx hb dX1_fillInto_23 (by decide) ?_
  refine lv_istore_n (lv' := [(3, .int 0), (0, .ref d), (1, .ref v), (2, .int a2)]) hx hb dX1_fillInto_24 rfl hl (by decide) rfl (fun ls hl => ?_)
  refine lp_A (nL := 4) (N := 40) (σ := Unit) (lv := fun i x_69 => [(3, .int (nI i)), (0, .ref d), (1, .ref v), (2, .int a2)]) (J := fun i9 _ w9 => sm ρ [7] ws_56 w9) (fun i hi ih x_69 ws_66 H locs ls hj_67 hP hD hS hl => ?_) 0 (by omega) () _ _ _ ls (sm.rf _) hP hD hS (lv_sub hl [0, 1, 2, 3] rfl)
  have hl : lv_has ls 4 [(3, .int (nI i)), (0, .ref d), (1, .ref v), (2, .int a2)] := hl
  have e_70 := hj_67.objK e_59 (by decide)
  obtain ⟨f_72, e_71⟩ := hj_67.arrI e_60
  obtain ⟨f_74, e_73⟩ := hj_67.arrJ e_62
  obtain ⟨g_76, e_75, h_77⟩ := hj_67.obj e_58
  obtain ⟨z_78, z_79, z_80, z_81, rfl⟩ := smX7 h_77
  obtain ⟨f_83, e_82⟩ := hj_67.arrI e_64
  have hsm := hsm.tr (hj_67.mono (by decide))
  have hlp_68 := hj_67
  refine lv_iload_n hx hb dX1_fillInto_25 rfl (lv_at hl 0 rfl) ?_
  refine lv_aload_n hx hb dX1_fillInto_26 rfl (lv_at hl 1 rfl) ?_
  refine va_get (D := D) (ci := 1) (v := .ref dg) (C := RX1) (T := TX1) (N := 2) hx hb hts hin1 hown hK hP kd e_70 rfl 0 (by decide) (hts (.fieldLink RX1 9 "HoneyHouse$Draught" "grams" "[I") (List.mem_of_getElem? (i := 7) rfl)) (fun _ h9 => h9) rfl dX1_fillInto_27 ?_
  refine va_alen (v := 40) hx hb hK hP kdg tdg e_71 udg rfl dX1_fillInto_30 ?_
  refine lv_icmp_ge (tgt := 51) hx hb dX1_fillInto_31 (by decide) (fun c_84 => ?_) (fun c_84 => ?_)
  · exact W.vret hx hb hr (fun t ht hW => ⟨⟨(), rfl, trivial, ws_66, tys, hsm, htx, by rw [ht]; exact hP, va_K.moved hW.alike hK, hD, trivial⟩, hS.F ht⟩) hS.2.2 dX1_fillInto_51
  have hlt : i < 40 := i_lt_of hi (by omega) rfl c_84
  refine lv_aload_n hx hb dX1_fillInto_34 rfl (lv_at hl 2 rfl) ?_
  refine lv_iload_n hx hb dX1_fillInto_35 rfl (lv_at hl 0 rfl) ?_
  refine lv_aload_n hx hb dX1_fillInto_36 rfl (lv_at hl 1 rfl) ?_
  refine va_get (D := D) (ci := 1) (v := .ref dg) (C := RX1) (T := TX1) (N := 2) hx hb hts hin1 hown hK hP kd e_70 rfl 0 (by decide) (hts (.fieldLink RX1 9 "HoneyHouse$Draught" "grams" "[I") (List.mem_of_getElem? (i := 7) rfl)) (fun _ h9 => h9) rfl dX1_fillInto_37 ?_
  refine lv_iload_n hx hb dX1_fillInto_40 rfl (lv_at hl 0 rfl) ?_
  refine va_iald (f := f_72) (n := 40) hx hb hK hP kdg tdg e_71 udg (vp_in_nI hlt (by omega)) dX1_fillInto_41 ?_
  have hFc := free_all hD hS hA
  refine va_callv (va_runV (As := [.int (nI i), .int (f_72 (nI i).toNatClampNeg)]) (rest := []) ⟨hx, hb, hml, hown, hts⟩ (a_addGrams l D ρ ws_66 tys v kv z_78 z_79 z_80 z_81 g kg cg tg f_83 (nI i) (f_72 (nI i).toNatClampNeg) H.size e_75 e_82 ug w_kg w_kv) (cwV 2 hts gX1_fillInto_X7_addGrams rfl rfl rfl (by decide +kernel) ⟨Nat.le_of_ble_eq_true rfl, Nat.le_of_ble_eq_true rfl⟩) ⟨fun a U g mk q => by obtain ⟨q0, q1, qP, qK, qD⟩ := q; exact ⟨q0, q1, qP, va_K.moved (u := U) (U := U.calling g mk a) (Vm.Alike.refl U.vm) qK, qD⟩, va_recv hK hP (ci := 7) (q0 := kv) rfl e_75, fun U hU hW => ⟨rfl, by rw [hU], by rw [hU]; exact hP, va_K.moved hW.alike hK, hD.weaken (fun _ _ _ _ => trivial)⟩⟩ rfl rfl hl.1 rfl (lv_room (Nat.le_of_ble_eq_true rfl)) dX1_fillInto_42 ⟨Nat.le_of_ble_eq_true rfl, Nat.le_of_ble_eq_true rfl⟩) hS (fun q _ h => hFc q h) hFc (fun u t H1 locs ht hvm w_86 hB hz1 hk1 hS => ?_)
  obtain ⟨ws_87, ty_88, hm_89, ht_91, hP1, hK1, hD1, hx_90⟩ := hB
  rw [ht] at hP1
  have hK := va_K.moved hvm.symm hK1
  have hD := hD1.weaken (fun _ _ _ h => hFc _ h)
  generalize H1 = H at hP1 hS ⊢
  have hP := hP1
  have e_92 := hm_89.objK e_70 (by decide)
  obtain ⟨f_94, e_93⟩ := hm_89.arrI e_71
  have u_95 := ht_91 _ _ udg
  obtain ⟨f_97, e_96⟩ := hm_89.arrJ e_73
  have u_98 := ht_91 _ _ udq
  obtain ⟨g_100, e_99, h_101⟩ := hm_89.obj e_75
  obtain ⟨z_102, z_103, z_104, z_105, rfl⟩ := smX7 h_101
  obtain ⟨f_107, e_106⟩ := hm_89.arrI e_82
  have u_108 := ht_91 _ _ ug
  have hsm := hsm.tr (hm_89.mono (by decide))
  have hlp_68 := hlp_68.tr (hm_89.mono (by decide))
  have htx := htx.tr ht_91
  refine lv_iinc (v := nI (i + 1)) (lv' := [(3, .int (nI (i + 1))), (0, .ref d), (1, .ref v), (2, .int a2)]) hx hb dX1_fillInto_45 hl (k := 0) rfl (nI_1 i) (by decide) rfl (fun ls hl => ?_)
  refine lv_goto (tgt := 25) hx hb dX1_fillInto_48 (by decide) ?_
  exact ih hlt () _ _ _ ls hlp_68 hP hD hS (lv_sub hl [0, 1, 2, 3] rfl)
set_option maxHeartbeats 4000000 in
set_option maxRecDepth 100000 in
theorem a_shareOut (l : Launch) (D : va_G) (ρ : Nat → Nat) (ws : va_W) (tys : List (ClassId × FieldType)) (d kd : Nat) (dg kdg : Nat) (cdg : ClassId) (tdg : Nat) (fd : Nat → Int32) (dq kdq : Nat) (cdq : ClassId) (tdq : Nat) (fq : Nat → Int64) (v kv : Nat) (vt vh vr vp : Int32) (g kg : Nat) (cg : ClassId) (tg : Nat) (f : Nat → Int32) (a2 : Int32) (sz : Nat) (ed : ws[kd]? = some (d, .inr (1, [.ref dg, .ref dq]))) (edg : ws[kdg]? = some (dg, .inl (cdg, 40, .inl fd))) (udg : tys[tdg]? = some (cdg, .int)) (edq : ws[kdq]? = some (dq, .inl (cdq, 40, .inr (.inl fq)))) (udq : tys[tdq]? = some (cdq, .long)) (ev : ws[kv]? = some (v, .inr (7, [.ref g, .int vt, .int vh, .int vr, .int vp]))) (eg : ws[kg]? = some (g, .inl (cg, 40, .inl f))) (ug : tys[tg]? = some (cg, .int)) (w_kdg : ρ kdg = 0) (w_kdq : ρ kdq = 0) : Met l yX1_shareOut wsX1_shareOut ({ frames := 1, cells := 0, slots := 0, locals := 23 }) (va_Pc [.ref d, .ref v, .int a2] (fun U => U.heap.size = sz ∧ va_P D vwCl ws U.heap ∧ va_K D vwCl tys U ∧ va_D (fun _ => True) ws)) (va_Qv (fun _ : Unit => True) (fun (_ : Unit) (t : State) => ∃ (ws' : va_W) (tys' : List (ClassId × FieldType)), sm ρ [] ws ws' ∧ tyx tys tys' ∧ va_P D vwCl ws' t.heap ∧ va_K D vwCl tys' t ∧ va_D (va_A ws sz) ws' ∧ (True)) (va_A ws sz)) 0 0 (va_A ws sz) := by
  refine Met.ofW (cc := cX1_shareOut) (maxL := 7) (ret := none) (by decide) rfl ?_
  intro p e s m args below meth c s₁ B hml hv
  obtain ⟨rfl, hsz, hP, hK, hD0⟩ := hv
  have hx := B.exec
  have hb := B.bytes
  have hr := B.returns
  have hts := atoms_spec (ws := wsX1_shareOut) B.pre
  have hown : s.vm.findClass RX1 = some m.cls := findClass_of_methodNamed B.named
  have hlocks := B.notSynchronized
  subst hsz
  have hD := hD0.self (sz := s.heap.size)
  generalize hAe : va_A ws s.heap.size = A at hD ⊢
  have hA : ∀ q : Nat, s.heap.size ≤ q → A q := fun q h => by rw [← hAe]; exact Or.inr h
  have hS : va_S A s.heap s.heap [] := va_S.rf
  have hsm : sm ρ [] ws ws := sm.rf ws
  have htx : tyx tys tys := tyx.rf tys
  have hin1 : ∀ w ∈ u_ws RX1 TX1 2, w ∈ wsX1_shareOut := (fun _ h9 => List.mem_cons_of_mem _ (List.mem_append_left _ ((List.mem_append_right _ h9))))
  have hin7 : ∀ w ∈ u_ws RX7 TX7 5, w ∈ wsX1_shareOut := (fun _ h9 => List.mem_cons_of_mem _ ((List.mem_append_right _ h9)))
  have hl := lv_entry ([.ref d, .ref v, .int a2]) (n := 7) (Nat.le_of_ble_eq_true rfl)
  rw [lg_entry_eq]
  generalize (lg_sl ([.ref d, .ref v, .int a2]) ++ List.replicate (7 - (lg_sl ([.ref d, .ref v, .int a2])).length) Slot.unset).toArray = ls at hl ⊢
  have hl : lv_has ls 7 [(0, .ref d), (1, .ref v), (2, .int a2)] := hl
  refine lv_aload_n hx hb dX1_shareOut_0 rfl (lv_at hl 0 rfl) ?_
  refine va_get (D := D) (ci := 1) (v := .ref dg) (C := RX1) (T := TX1) (N := 2) hx hb hts hin1 hown hK hP kd ed rfl 0 (by decide) (hts (.fieldLink RX1 9 "HoneyHouse$Draught" "grams" "[I") (List.mem_of_getElem? (i := 1) rfl)) (fun _ h9 => h9) rfl dX1_shareOut_1 ?_
  refine lv_iconst (v := 0) hx hb dX1_shareOut_4 (by decide) ?_
  have hFc := free_all hD hS hA
  refine va_callv (va_runS (As := [.ref dg, .int 0]) (rest := []) ⟨hx, hb, hml, hown, hts⟩ (a_fill l D ρ ws tys dg kdg cdg tdg 40 fd 0 s.heap.size (by omega) edg udg w_kdg) (va_cwS 2 hts gX1_shareOut_J7_fill_53178 rfl rfl rfl (by decide +kernel) ⟨Nat.le_of_ble_eq_true rfl, Nat.le_of_ble_eq_true rfl⟩) ⟨fun a U g mk q => by obtain ⟨q0, q1, qP, qK, qD⟩ := q; exact ⟨q0, q1, qP, va_K.moved (u := U) (U := U.calling g mk a) (Vm.Alike.refl U.vm) qK, qD⟩, fun U hU hW => ⟨rfl, by rw [hU], by rw [hU]; exact hP, va_K.moved hW.alike hK, hD.weaken (fun _ _ _ _ => trivial)⟩⟩ rfl rfl hl.1 rfl (lv_room (Nat.le_of_ble_eq_true rfl)) dX1_shareOut_5 ⟨Nat.le_of_ble_eq_true rfl, Nat.le_of_ble_eq_true rfl⟩) hS (fun q _ h => hFc q h) hFc (fun u t H1 locs ht hvm w_2 hB hz1 hk1 hS => ?_)
  obtain ⟨ws_3, ty_4, hm_5, ht_7, hP1, hK1, hD1, hx_6⟩ := hB
  rw [ht] at hP1
  have hK := va_K.moved hvm.symm hK1
  have hD := hD1.weaken (fun _ _ _ h => hFc _ h)
  generalize H1 = H at hP1 hS ⊢
  have hP := hP1
  have e_8 := hm_5.objK ed (by decide)
  obtain ⟨f_10, e_9⟩ := hm_5.arrI edg
  have u_11 := ht_7 _ _ udg
  obtain ⟨f_13, e_12⟩ := hm_5.arrJ edq
  have u_14 := ht_7 _ _ udq
  have e_15 := hm_5.objK ev (by decide)
  obtain ⟨f_17, e_16⟩ := hm_5.arrI eg
  have u_18 := ht_7 _ _ ug
  have hsm := hsm.tr (hm_5.mono (by decide))
  have htx := htx.tr ht_7
  refine lv_aload_n hx hb dX1_shareOut_8 rfl (lv_at hl 1 rfl) ?_
  refine va_get (D := D) (ci := 7) (v := .int vt) (C := RX7) (T := TX7) (N := 5) hx hb hts hin7 hown hK hP kv e_15 rfl 1 (by decide) (hts (.fieldLink RX1 29 "HoneyHouse$Vessel" "total" "I") (List.mem_of_getElem? (i := 2) rfl)) (fun _ h9 => h9) rfl dX1_shareOut_9 ?_
  refine lv_if_gt (tgt := 16) hx hb dX1_shareOut_12 (by decide) (fun c_19 => ?_) (fun c_19 => ?_)
  · refine lv_iload_n hx hb dX1_shareOut_16 rfl (lv_at hl 2 rfl) ?_
    refine lv_istore_n (lv' := [(3, .int a2), (0, .ref d), (1, .ref v), (2, .int a2)]) hx hb dX1_shareOut_17 rfl hl (by decide) rfl (fun ls hl => ?_)
    refine lv_iconst (v := 0) hx hb dX1_shareOut_18 (by decide) ?_
    refine lv_istore (lv' := [(4, .int 0), (3, .int a2), (0, .ref d), (1, .ref v), (2, .int a2)]) hx hb dX1_shareOut_19 hl (by decide) rfl (fun ls hl => ?_)
    refine lp_A (nL := 7) (N := 40) (σ := Int32) (lv := fun i x_23 => [(4, .int (nI i)), (3, .int x_23), (0, .ref d), (1, .ref v), (2, .int a2)]) (J := fun i9 _ w9 => sm ρ [] ws_3 w9) (fun i hi ih x_23 ws_20 H locs ls hj_21 hP hD hS hl => ?_) 0 (by omega) a2 _ _ _ ls (sm.rf _) hP hD hS (lv_sub hl [0, 1, 2, 3, 4] rfl)
    have hl : lv_has ls 7 [(4, .int (nI i)), (3, .int x_23), (0, .ref d), (1, .ref v), (2, .int a2)] := hl
    have e_24 := hj_21.objK e_8 (by decide)
    obtain ⟨f_26, e_25⟩ := hj_21.arrI e_9
    obtain ⟨f_28, e_27⟩ := hj_21.arrJ e_12
    have e_29 := hj_21.objK e_15 (by decide)
    obtain ⟨f_31, e_30⟩ := hj_21.arrI e_16
    have hsm := hsm.tr (hj_21.mono (by decide))
    have hlp_22 := hj_21
    refine lv_iload hx hb dX1_shareOut_21 (lv_at hl 0 rfl) ?_
    refine lv_aload_n hx hb dX1_shareOut_23 rfl (lv_at hl 2 rfl) ?_
    refine va_get (D := D) (ci := 1) (v := .ref dg) (C := RX1) (T := TX1) (N := 2) hx hb hts hin1 hown hK hP kd e_24 rfl 0 (by decide) (hts (.fieldLink RX1 9 "HoneyHouse$Draught" "grams" "[I") (List.mem_of_getElem? (i := 1) rfl)) (fun _ h9 => h9) rfl dX1_shareOut_24 ?_
    refine va_alen (v := 40) hx hb hK hP kdg tdg e_25 u_11 rfl dX1_shareOut_27 ?_
    refine lv_icmp_ge (tgt := 90) hx hb dX1_shareOut_28 (by decide) (fun c_32 => ?_) (fun c_32 => ?_)
    · refine lv_iconst (v := 0) hx hb dX1_shareOut_90 (by decide) ?_
      refine lv_istore (lv' := [(4, .int 0), (3, .int x_23), (0, .ref d), (1, .ref v), (2, .int a2)]) hx hb dX1_shareOut_91 hl (by decide) rfl (fun ls hl => ?_)
      refine lp_A (nL := 7) (N := 40) (σ := Int32) (lv := fun i x_36 => [(4, .int (nI i)), (3, .int x_36), (0, .ref d), (1, .ref v), (2, .int a2)]) (J := fun i9 _ w9 => sm ρ [] ws_20 w9) (fun i hi ih x_36 ws_33 H locs ls hj_34 hP hD hS hl => ?_) 0 (by omega) x_23 _ _ _ ls (sm.rf _) hP hD hS (lv_sub hl [0, 1, 2, 3, 4] rfl)
      have hl : lv_has ls 7 [(4, .int (nI i)), (3, .int x_36), (0, .ref d), (1, .ref v), (2, .int a2)] := hl
      have e_37 := hj_34.objK e_24 (by decide)
      obtain ⟨f_39, e_38⟩ := hj_34.arrI e_25
      obtain ⟨f_41, e_40⟩ := hj_34.arrJ e_27
      have e_42 := hj_34.objK e_29 (by decide)
      obtain ⟨f_44, e_43⟩ := hj_34.arrI e_30
      have hsm := hsm.tr (hj_34.mono (by decide))
      have hlp_22 := hlp_22.tr (hj_34.mono (by decide))
      have hlp_35 := hj_34
      refine lv_iload hx hb dX1_shareOut_93 (lv_at hl 0 rfl) ?_
      refine lv_aload_n hx hb dX1_shareOut_95 rfl (lv_at hl 2 rfl) ?_
      refine va_get (D := D) (ci := 1) (v := .ref dq) (C := RX1) (T := TX1) (N := 2) hx hb hts hin1 hown hK hP kd e_37 rfl 1 (by decide) (hts (.fieldLink RX1 15 "HoneyHouse$Draught" "rests" "[J") (List.mem_of_getElem? (i := 3) rfl)) (fun _ h9 => h9) rfl dX1_shareOut_96 ?_
      refine va_alen (v := 40) hx hb hK hP kdq tdq e_40 u_14 rfl dX1_shareOut_99 ?_
      refine lv_icmp_ge (tgt := 142) hx hb dX1_shareOut_100 (by decide) (fun c_45 => ?_) (fun c_45 => ?_)
      · exact W.vret hx hb hr (fun t ht hW => ⟨⟨(), rfl, trivial, ws_33, ty_4, hsm, htx, by rw [ht]; exact hP, va_K.moved hW.alike hK, hD, trivial⟩, hS.F ht⟩) hS.2.2 dX1_shareOut_142
      have hlt : i < 40 := i_lt_of hi (by omega) rfl c_45
      refine lv_iload hx hb dX1_shareOut_103 (lv_at hl 0 rfl) ?_
      refine lv_iload_n hx hb dX1_shareOut_105 rfl (lv_at hl 1 rfl) ?_
      refine lv_icmp_ge (tgt := 142) hx hb dX1_shareOut_106 (by decide) (fun c_46 => ?_) (fun c_46 => ?_)
      · exact W.vret hx hb hr (fun t ht hW => ⟨⟨(), rfl, trivial, ws_33, ty_4, hsm, htx, by rw [ht]; exact hP, va_K.moved hW.alike hK, hD, trivial⟩, hS.F ht⟩) hS.2.2 dX1_shareOut_142
      refine lv_aload_n hx hb dX1_shareOut_109 rfl (lv_at hl 2 rfl) ?_
      refine vp_callSi (W.runV (As := []) (rest := []) ⟨hx, hb, hml, hown, hts⟩ (s_greatestRest l D ws_33 ty_4 d kd dg kdg cdg tdg f_39 dq kdq cdq tdq f_41 e_37 e_38 u_11 e_40 u_14) (cwV 0 hts gX1_shareOut_X1_greatestRest rfl rfl rfl (by decide +kernel) ⟨Nat.le_of_ble_eq_true rfl, Nat.le_of_ble_eq_true rfl⟩) ⟨fun a U g mk q => ⟨q.1, q.2.1, va_K.moved (u := U) (U := U.calling g mk a) (Vm.Alike.refl U.vm) q.2.2⟩, va_recv hK hP (ci := 1) (q0 := kd) rfl e_37, fun U hU hW => ⟨rfl, by rw [hU]; exact hP, va_K.moved hW.alike hK⟩⟩ rfl rfl hl.1 rfl (lv_room (Nat.le_of_ble_eq_true rfl)) dX1_shareOut_110 ⟨Nat.le_of_ble_eq_true rfl, Nat.le_of_ble_eq_true rfl⟩) (fun r_47 k_48 => ?_)
      obtain ⟨b_49, hb_50, rfl⟩ := k_48
      refine lv_istore (lv' := [(5, .int (nI b_49)), (4, .int (nI i)), (3, .int x_36), (0, .ref d), (1, .ref v), (2, .int a2)]) hx hb dX1_shareOut_113 hl (by decide) rfl (fun ls hl => ?_)
      refine lv_aload_n hx hb dX1_shareOut_115 rfl (lv_at hl 3 rfl) ?_
      refine va_get (D := D) (ci := 1) (v := .ref dg) (C := RX1) (T := TX1) (N := 2) hx hb hts hin1 hown hK hP kd e_37 rfl 0 (by decide) (hts (.fieldLink RX1 9 "HoneyHouse$Draught" "grams" "[I") (List.mem_of_getElem? (i := 1) rfl)) (fun _ h9 => h9) rfl dX1_shareOut_116 ?_
      refine lv_iload hx hb dX1_shareOut_119 (lv_at hl 0 rfl) ?_
      refine lv_dup2_11 hx hb dX1_shareOut_121 rfl rfl ?_
      refine va_iald (f := f_39) (n := 40) hx hb hK hP kdg tdg e_38 u_11 (vp_in_nI hb_50 (by omega)) dX1_shareOut_122 ?_
      refine lv_iconst (v := 1) hx hb dX1_shareOut_123 (by decide) ?_
      refine lv_iadd hx hb dX1_shareOut_124 ?_
      refine va_iast (f := f_39) (n := 40) hx hb hK hP hD hS kdg tdg e_38 u_11 (vp_in_nI hb_50 (by omega)) dX1_shareOut_125 (fun H locs hP hD hS => ?_)
      have hm_52 : sm ρ [] ws_33 (ws_33.set kdg (dg, .inl (cdg, 40, .inl (upd f_39 (nI b_49).toNatClampNeg ((f_39 (nI b_49).toNatClampNeg) + 1))))) := sm.ints e_38 w_kdg
      have e_53 : (ws_33.set kdg (dg, .inl (cdg, 40, .inl (upd f_39 (nI b_49).toNatClampNeg ((f_39 (nI b_49).toNatClampNeg) + 1)))))[kdg]? = some (dg, .inl (cdg, 40, .inl (upd f_39 (nI b_49).toNatClampNeg ((f_39 (nI b_49).toNatClampNeg) + 1)))) := wset_self e_38
      generalize ws_33.set kdg (dg, .inl (cdg, 40, .inl (upd f_39 (nI b_49).toNatClampNeg ((f_39 (nI b_49).toNatClampNeg) + 1)))) = ws_51 at hP hD hm_52 e_53
      have e_54 := hm_52.objK e_37 (by decide)
      obtain ⟨f_56, e_55⟩ := hm_52.arrJ e_40
      have e_57 := hm_52.objK e_42 (by decide)
      obtain ⟨f_59, e_58⟩ := hm_52.arrI e_43
      have hsm := hsm.tr (hm_52.mono (fun _ h9 => absurd h9 List.not_mem_nil))
      have hlp_22 := hlp_22.tr (hm_52.mono (fun _ h9 => absurd h9 List.not_mem_nil))
      have hlp_35 := hlp_35.tr (hm_52.mono (fun _ h9 => absurd h9 List.not_mem_nil))
      generalize upd f_39 (nI b_49).toNatClampNeg ((f_39 (nI b_49).toNatClampNeg) + 1) = f_60 at e_53
      refine lv_aload_n hx hb dX1_shareOut_126 rfl (lv_at hl 3 rfl) ?_
      refine va_get (D := D) (ci := 1) (v := .ref dq) (C := RX1) (T := TX1) (N := 2) hx hb hts hin1 hown hK hP kd e_54 rfl 1 (by decide) (hts (.fieldLink RX1 15 "HoneyHouse$Draught" "rests" "[J") (List.mem_of_getElem? (i := 3) rfl)) (fun _ h9 => h9) rfl dX1_shareOut_127 ?_
      refine lv_iload hx hb dX1_shareOut_130 (lv_at hl 0 rfl) ?_
      refine lv_ldc2 hx hb hown (hts (.constantLong RX1 56 (-1)) (List.mem_of_getElem? (i := 4) rfl)) dX1_shareOut_132 ?_
      refine va_last (f := f_56) (n := 40) hx hb hK hP hD hS kdq tdq e_55 u_14 (vp_in_nI hb_50 (by omega)) dX1_shareOut_135 (fun H locs hP hD hS => ?_)
      have hm_62 : sm ρ [] ws_51 (ws_51.set kdq (dq, .inl (cdq, 40, .inr (.inl (vp_updL f_56 (nI b_49).toNatClampNeg (-1)))))) := sm.longs e_55 w_kdq
      have e_63 : (ws_51.set kdq (dq, .inl (cdq, 40, .inr (.inl (vp_updL f_56 (nI b_49).toNatClampNeg (-1))))))[kdq]? = some (dq, .inl (cdq, 40, .inr (.inl (vp_updL f_56 (nI b_49).toNatClampNeg (-1))))) := wset_self e_55
      generalize ws_51.set kdq (dq, .inl (cdq, 40, .inr (.inl (vp_updL f_56 (nI b_49).toNatClampNeg (-1))))) = ws_61 at hP hD hm_62 e_63
      have e_64 := hm_62.objK e_54 (by decide)
      obtain ⟨f_66, e_65⟩ := hm_62.arrI e_53
      have e_67 := hm_62.objK e_57 (by decide)
      obtain ⟨f_69, e_68⟩ := hm_62.arrI e_58
      have hsm := hsm.tr (hm_62.mono (fun _ h9 => absurd h9 List.not_mem_nil))
      have hlp_22 := hlp_22.tr (hm_62.mono (fun _ h9 => absurd h9 List.not_mem_nil))
      have hlp_35 := hlp_35.tr (hm_62.mono (fun _ h9 => absurd h9 List.not_mem_nil))
      generalize vp_updL f_56 (nI b_49).toNatClampNeg (-1) = f_70 at e_63
      refine lv_iinc (v := nI (i + 1)) (lv' := [(4, .int (nI (i + 1))), (5, .int (nI b_49)), (3, .int x_36), (0, .ref d), (1, .ref v), (2, .int a2)]) hx hb dX1_shareOut_136 hl (k := 1) rfl (nI_1 i) (by decide) rfl (fun ls hl => ?_)
      refine lv_goto (tgt := 93) hx hb dX1_shareOut_139 (by decide) ?_
      exact ih hlt x_36 _ _ _ ls hlp_35 hP hD hS (lv_sub hl [0, 2, 3, 4, 5] rfl)
    have hlt : i < 40 := i_lt_of hi (by omega) rfl c_32
    refine lv_iload_n hx hb dX1_shareOut_31 rfl (lv_at hl 4 rfl) ?_
    refine lv_i2l hx hb dX1_shareOut_32 rfl ?_
    refine lv_aload_n hx hb dX1_shareOut_33 rfl (lv_at hl 3 rfl) ?_
    refine lv_iload hx hb dX1_shareOut_34 (lv_at hl 0 rfl) ?_
    refine vp_callSi (W.runV (As := [.int (nI i)]) (rest := [.long a2.toInt64]) ⟨hx, hb, hml, hown, hts⟩ (s_gramsOf l D ws_20 ty_4 v kv vt vh vr vp g kg cg tg f_31 (nI i) e_29 e_30 u_18) (cwV 1 hts gX1_shareOut_X7_gramsOf rfl rfl rfl (by decide +kernel) ⟨Nat.le_of_ble_eq_true rfl, Nat.le_of_ble_eq_true rfl⟩) ⟨fun a U g mk q => ⟨q.1, q.2.1, va_K.moved (u := U) (U := U.calling g mk a) (Vm.Alike.refl U.vm) q.2.2⟩, va_recv hK hP (ci := 7) (q0 := kv) rfl e_29, fun U hU hW => ⟨rfl, by rw [hU]; exact hP, va_K.moved hW.alike hK⟩⟩ rfl rfl hl.1 rfl (lv_room (Nat.le_of_ble_eq_true rfl)) dX1_shareOut_36 ⟨Nat.le_of_ble_eq_true rfl, Nat.le_of_ble_eq_true rfl⟩) (fun r_71 k_72 => ?_)
    refine lv_i2l hx hb dX1_shareOut_39 rfl ?_
    refine lv_lmul hx hb dX1_shareOut_40 ?_
    refine lv_lstore (lv' := [(5, .long (a2.toInt64 * r_71.toInt64)), (4, .int (nI i)), (3, .int x_23), (0, .ref d), (1, .ref v), (2, .int a2)]) hx hb dX1_shareOut_41 hl (by decide) rfl (fun ls hl => ?_)
    refine lv_aload_n hx hb dX1_shareOut_43 rfl (lv_at hl 3 rfl) ?_
    refine va_get (D := D) (ci := 1) (v := .ref dg) (C := RX1) (T := TX1) (N := 2) hx hb hts hin1 hown hK hP kd e_24 rfl 0 (by decide) (hts (.fieldLink RX1 9 "HoneyHouse$Draught" "grams" "[I") (List.mem_of_getElem? (i := 1) rfl)) (fun _ h9 => h9) rfl dX1_shareOut_44 ?_
    refine lv_iload hx hb dX1_shareOut_47 (lv_at hl 1 rfl) ?_
    refine lv_lload hx hb dX1_shareOut_49 (lv_at hl 0 rfl) ?_
    refine lv_aload_n hx hb dX1_shareOut_51 rfl (lv_at hl 4 rfl) ?_
    refine va_get (D := D) (ci := 7) (v := .int vt) (C := RX7) (T := TX7) (N := 5) hx hb hts hin7 hown hK hP kv e_29 rfl 1 (by decide) (hts (.fieldLink RX1 29 "HoneyHouse$Vessel" "total" "I") (List.mem_of_getElem? (i := 2) rfl)) (fun _ h9 => h9) rfl dX1_shareOut_52 ?_
    refine lv_i2l hx hb dX1_shareOut_55 rfl ?_
    refine lv_ldiv hx hb dX1_shareOut_56 (i_pos64 c_19) ?_
    refine lv_l2i hx hb dX1_shareOut_57 rfl ?_
    refine va_iast (f := f_26) (n := 40) hx hb hK hP hD hS kdg tdg e_25 u_11 (vp_in_nI hlt (by omega)) dX1_shareOut_58 (fun H locs hP hD hS => ?_)
    have hm_74 : sm ρ [] ws_20 (ws_20.set kdg (dg, .inl (cdg, 40, .inl (upd f_26 (nI i).toNatClampNeg (((a2.toInt64 * r_71.toInt64) / vt.toInt64).toInt32))))) := sm.ints e_25 w_kdg
    have e_75 : (ws_20.set kdg (dg, .inl (cdg, 40, .inl (upd f_26 (nI i).toNatClampNeg (((a2.toInt64 * r_71.toInt64) / vt.toInt64).toInt32)))))[kdg]? = some (dg, .inl (cdg, 40, .inl (upd f_26 (nI i).toNatClampNeg (((a2.toInt64 * r_71.toInt64) / vt.toInt64).toInt32)))) := wset_self e_25
    generalize ws_20.set kdg (dg, .inl (cdg, 40, .inl (upd f_26 (nI i).toNatClampNeg (((a2.toInt64 * r_71.toInt64) / vt.toInt64).toInt32)))) = ws_73 at hP hD hm_74 e_75
    have e_76 := hm_74.objK e_24 (by decide)
    obtain ⟨f_78, e_77⟩ := hm_74.arrJ e_27
    have e_79 := hm_74.objK e_29 (by decide)
    obtain ⟨f_81, e_80⟩ := hm_74.arrI e_30
    have hsm := hsm.tr (hm_74.mono (fun _ h9 => absurd h9 List.not_mem_nil))
    have hlp_22 := hlp_22.tr (hm_74.mono (fun _ h9 => absurd h9 List.not_mem_nil))
    generalize upd f_26 (nI i).toNatClampNeg (((a2.toInt64 * r_71.toInt64) / vt.toInt64).toInt32) = f_82 at e_75
    refine lv_aload_n hx hb dX1_shareOut_59 rfl (lv_at hl 3 rfl) ?_
    refine va_get (D := D) (ci := 1) (v := .ref dq) (C := RX1) (T := TX1) (N := 2) hx hb hts hin1 hown hK hP kd e_76 rfl 1 (by decide) (hts (.fieldLink RX1 15 "HoneyHouse$Draught" "rests" "[J") (List.mem_of_getElem? (i := 3) rfl)) (fun _ h9 => h9) rfl dX1_shareOut_60 ?_
    refine lv_iload hx hb dX1_shareOut_63 (lv_at hl 1 rfl) ?_
    refine lv_lload hx hb dX1_shareOut_65 (lv_at hl 0 rfl) ?_
    refine lv_aload_n hx hb dX1_shareOut_67 rfl (lv_at hl 4 rfl) ?_
    refine va_get (D := D) (ci := 7) (v := .int vt) (C := RX7) (T := TX7) (N := 5) hx hb hts hin7 hown hK hP kv e_79 rfl 1 (by decide) (hts (.fieldLink RX1 29 "HoneyHouse$Vessel" "total" "I") (List.mem_of_getElem? (i := 2) rfl)) (fun _ h9 => h9) rfl dX1_shareOut_68 ?_
    refine lv_i2l hx hb dX1_shareOut_71 rfl ?_
    refine lv_lrem hx hb dX1_shareOut_72 (i_pos64 c_19) ?_
    refine va_last (f := f_78) (n := 40) hx hb hK hP hD hS kdq tdq e_77 u_14 (vp_in_nI hlt (by omega)) dX1_shareOut_73 (fun H locs hP hD hS => ?_)
    have hm_84 : sm ρ [] ws_73 (ws_73.set kdq (dq, .inl (cdq, 40, .inr (.inl (vp_updL f_78 (nI i).toNatClampNeg ((a2.toInt64 * r_71.toInt64) - (a2.toInt64 * r_71.toInt64) / vt.toInt64 * vt.toInt64)))))) := sm.longs e_77 w_kdq
    have e_85 : (ws_73.set kdq (dq, .inl (cdq, 40, .inr (.inl (vp_updL f_78 (nI i).toNatClampNeg ((a2.toInt64 * r_71.toInt64) - (a2.toInt64 * r_71.toInt64) / vt.toInt64 * vt.toInt64))))))[kdq]? = some (dq, .inl (cdq, 40, .inr (.inl (vp_updL f_78 (nI i).toNatClampNeg ((a2.toInt64 * r_71.toInt64) - (a2.toInt64 * r_71.toInt64) / vt.toInt64 * vt.toInt64))))) := wset_self e_77
    generalize ws_73.set kdq (dq, .inl (cdq, 40, .inr (.inl (vp_updL f_78 (nI i).toNatClampNeg ((a2.toInt64 * r_71.toInt64) - (a2.toInt64 * r_71.toInt64) / vt.toInt64 * vt.toInt64))))) = ws_83 at hP hD hm_84 e_85
    have e_86 := hm_84.objK e_76 (by decide)
    obtain ⟨f_88, e_87⟩ := hm_84.arrI e_75
    have e_89 := hm_84.objK e_79 (by decide)
    obtain ⟨f_91, e_90⟩ := hm_84.arrI e_80
    have hsm := hsm.tr (hm_84.mono (fun _ h9 => absurd h9 List.not_mem_nil))
    have hlp_22 := hlp_22.tr (hm_84.mono (fun _ h9 => absurd h9 List.not_mem_nil))
    generalize vp_updL f_78 (nI i).toNatClampNeg ((a2.toInt64 * r_71.toInt64) - (a2.toInt64 * r_71.toInt64) / vt.toInt64 * vt.toInt64) = f_92 at e_85
    refine lv_iload_n hx hb dX1_shareOut_74 rfl (lv_at hl 2 rfl) ?_
    refine lv_aload_n hx hb dX1_shareOut_75 rfl (lv_at hl 3 rfl) ?_
    refine va_get (D := D) (ci := 1) (v := .ref dg) (C := RX1) (T := TX1) (N := 2) hx hb hts hin1 hown hK hP kd e_86 rfl 0 (by decide) (hts (.fieldLink RX1 9 "HoneyHouse$Draught" "grams" "[I") (List.mem_of_getElem? (i := 1) rfl)) (fun _ h9 => h9) rfl dX1_shareOut_76 ?_
    refine lv_iload hx hb dX1_shareOut_79 (lv_at hl 1 rfl) ?_
    refine va_iald (f := f_88) (n := 40) hx hb hK hP kdg tdg e_87 u_11 (vp_in_nI hlt (by omega)) dX1_shareOut_81 ?_
    refine lv_isub hx hb dX1_shareOut_82 ?_
    refine lv_istore_n (lv' := [(3, .int (x_23 - (f_88 (nI i).toNatClampNeg))), (5, .long (a2.toInt64 * r_71.toInt64)), (4, .int (nI i)), (0, .ref d), (1, .ref v), (2, .int a2)]) hx hb dX1_shareOut_83 rfl hl (by decide) rfl (fun ls hl => ?_)
    refine lv_iinc (v := nI (i + 1)) (lv' := [(4, .int (nI (i + 1))), (3, .int (x_23 - (f_88 (nI i).toNatClampNeg))), (5, .long (a2.toInt64 * r_71.toInt64)), (0, .ref d), (1, .ref v), (2, .int a2)]) hx hb dX1_shareOut_84 hl (k := 2) rfl (nI_1 i) (by decide) rfl (fun ls hl => ?_)
    refine lv_goto (tgt := 21) hx hb dX1_shareOut_87 (by decide) ?_
    exact ih hlt (x_23 - (f_88 (nI i).toNatClampNeg)) _ _ _ ls hlp_22 hP hD hS (lv_sub hl [0, 1, 3, 4, 5] rfl)
  exact W.vret hx hb hr (fun t ht hW => ⟨⟨(), rfl, trivial, ws_3, ty_4, hsm, htx, by rw [ht]; exact hP, va_K.moved hW.alike hK, hD, trivial⟩, hS.F ht⟩) hS.2.2 dX1_shareOut_15
set_option maxHeartbeats 4000000 in
set_option maxRecDepth 100000 in
theorem a_drawFrom (l : Launch) (D : va_G) (ρ : Nat → Nat) (ws : va_W) (tys : List (ClassId × FieldType)) (d kd : Nat) (dg kdg : Nat) (cdg : ClassId) (tdg : Nat) (fd : Nat → Int32) (dq kdq : Nat) (cdq : ClassId) (tdq : Nat) (fq : Nat → Int64) (v kv : Nat) (vt vh vr vp : Int32) (g kg : Nat) (cg : ClassId) (tg : Nat) (f : Nat → Int32) (a2 : Int32) (sz : Nat) (ed : ws[kd]? = some (d, .inr (1, [.ref dg, .ref dq]))) (edg : ws[kdg]? = some (dg, .inl (cdg, 40, .inl fd))) (udg : tys[tdg]? = some (cdg, .int)) (edq : ws[kdq]? = some (dq, .inl (cdq, 40, .inr (.inl fq)))) (udq : tys[tdq]? = some (cdq, .long)) (ev : ws[kv]? = some (v, .inr (7, [.ref g, .int vt, .int vh, .int vr, .int vp]))) (eg : ws[kg]? = some (g, .inl (cg, 40, .inl f))) (ug : tys[tg]? = some (cg, .int)) (w_kdg : ρ kdg = 0) (w_kdq : ρ kdq = 0) (w_kv : ρ kv = 0) (w_kg : ρ kg = 0) : Met l yX1_drawFrom wsX1_drawFrom ({ frames := 2, cells := 0, slots := 0, locals := 49 }) (va_Pc [.ref d, .ref v, .int a2] (fun U => U.heap.size = sz ∧ va_P D vwCl ws U.heap ∧ va_K D vwCl tys U ∧ va_D (fun _ => True) ws)) (va_Qv (fun _ : Unit => True) (fun (_ : Unit) (t : State) => ∃ (ws' : va_W) (tys' : List (ClassId × FieldType)), sm ρ [7] ws ws' ∧ tyx tys tys' ∧ va_P D vwCl ws' t.heap ∧ va_K D vwCl tys' t ∧ va_D (va_A ws sz) ws' ∧ (True)) (va_A ws sz)) 0 0 (va_A ws sz) := by
  refine Met.ofW (cc := cX1_drawFrom) (maxL := 4) (ret := none) (by decide) rfl ?_
  intro p e s m args below meth c s₁ B hml hv
  obtain ⟨rfl, hsz, hP, hK, hD0⟩ := hv
  have hx := B.exec
  have hb := B.bytes
  have hr := B.returns
  have hts := atoms_spec (ws := wsX1_drawFrom) B.pre
  have hown : s.vm.findClass RX1 = some m.cls := findClass_of_methodNamed B.named
  have hlocks := B.notSynchronized
  subst hsz
  have hD := hD0.self (sz := s.heap.size)
  generalize hAe : va_A ws s.heap.size = A at hD ⊢
  have hA : ∀ q : Nat, s.heap.size ≤ q → A q := fun q h => by rw [← hAe]; exact Or.inr h
  have hS : va_S A s.heap s.heap [] := va_S.rf
  have hsm : sm ρ [7] ws ws := sm.rf ws
  have htx : tyx tys tys := tyx.rf tys
  have hin1 : ∀ w ∈ u_ws RX1 TX1 2, w ∈ wsX1_drawFrom := (fun _ h9 => List.mem_cons_of_mem _ (List.mem_append_left _ ((List.mem_append_right _ h9))))
  have hin7 : ∀ w ∈ u_ws RX7 TX7 5, w ∈ wsX1_drawFrom := (fun _ h9 => List.mem_cons_of_mem _ ((List.mem_append_right _ h9)))
  have hl := lv_entry ([.ref d, .ref v, .int a2]) (n := 4) (Nat.le_of_ble_eq_true rfl)
  rw [lg_entry_eq]
  generalize (lg_sl ([.ref d, .ref v, .int a2]) ++ List.replicate (4 - (lg_sl ([.ref d, .ref v, .int a2])).length) Slot.unset).toArray = ls at hl ⊢
  have hl : lv_has ls 4 [(0, .ref d), (1, .ref v), (2, .int a2)] := hl
  refine lv_aload_n hx hb dX1_drawFrom_0 rfl (lv_at hl 0 rfl) ?_
  refine lv_aload_n hx hb dX1_drawFrom_1 rfl (lv_at hl 1 rfl) ?_
  refine lv_iload_n hx hb dX1_drawFrom_2 rfl (lv_at hl 2 rfl) ?_
  have hFc := free_all hD hS hA
  refine va_callv (va_runV (As := [.ref v, .int a2]) (rest := []) ⟨hx, hb, hml, hown, hts⟩ (a_shareOut l D ρ ws tys d kd dg kdg cdg tdg fd dq kdq cdq tdq fq v kv vt vh vr vp g kg cg tg f a2 s.heap.size ed edg udg edq udq ev eg ug w_kdg w_kdq) (cwV 2 hts gX1_drawFrom_X1_shareOut rfl rfl rfl (by decide +kernel) ⟨Nat.le_of_ble_eq_true rfl, Nat.le_of_ble_eq_true rfl⟩) ⟨fun a U g mk q => by obtain ⟨q0, q1, qP, qK, qD⟩ := q; exact ⟨q0, q1, qP, va_K.moved (u := U) (U := U.calling g mk a) (Vm.Alike.refl U.vm) qK, qD⟩, va_recv hK hP (ci := 1) (q0 := kd) rfl ed, fun U hU hW => ⟨rfl, by rw [hU], by rw [hU]; exact hP, va_K.moved hW.alike hK, hD.weaken (fun _ _ _ _ => trivial)⟩⟩ rfl rfl hl.1 rfl (lv_room (Nat.le_of_ble_eq_true rfl)) dX1_drawFrom_3 ⟨Nat.le_of_ble_eq_true rfl, Nat.le_of_ble_eq_true rfl⟩) hS (fun q _ h => hFc q h) hFc (fun u t H1 locs ht hvm w_2 hB hz1 hk1 hS => ?_)
  obtain ⟨ws_3, ty_4, hm_5, ht_7, hP1, hK1, hD1, hx_6⟩ := hB
  rw [ht] at hP1
  have hK := va_K.moved hvm.symm hK1
  have hD := hD1.weaken (fun _ _ _ h => hFc _ h)
  generalize H1 = H at hP1 hS ⊢
  have hP := hP1
  have e_8 := hm_5.objK ed (by decide)
  obtain ⟨f_10, e_9⟩ := hm_5.arrI edg
  have u_11 := ht_7 _ _ udg
  obtain ⟨f_13, e_12⟩ := hm_5.arrJ edq
  have u_14 := ht_7 _ _ udq
  have e_15 := hm_5.objK ev (by decide)
  obtain ⟨f_17, e_16⟩ := hm_5.arrI eg
  have u_18 := ht_7 _ _ ug
  have hsm := hsm.tr (hm_5.mono (by decide))
  have htx := htx.tr ht_7
  refine lv_iconst (v := 0) hx hb dX1_drawFrom_6 (by decide) ?_
  refine lv_istore_n (lv' := [(3, .int 0), (0, .ref d), (1, .ref v), (2, .int a2)]) hx hb dX1_drawFrom_7 rfl hl (by decide) rfl (fun ls hl => ?_)
  refine lp_A (nL := 4) (N := 40) (σ := Unit) (lv := fun i x_22 => [(3, .int (nI i)), (0, .ref d), (1, .ref v), (2, .int a2)]) (J := fun i9 _ w9 => sm ρ [7] ws_3 w9) (fun i hi ih x_22 ws_19 H locs ls hj_20 hP hD hS hl => ?_) 0 (by omega) () _ _ _ ls (sm.rf _) hP hD hS (lv_sub hl [0, 1, 2, 3] rfl)
  have hl : lv_has ls 4 [(3, .int (nI i)), (0, .ref d), (1, .ref v), (2, .int a2)] := hl
  have e_23 := hj_20.objK e_8 (by decide)
  obtain ⟨f_25, e_24⟩ := hj_20.arrI e_9
  obtain ⟨f_27, e_26⟩ := hj_20.arrJ e_12
  obtain ⟨g_29, e_28, h_30⟩ := hj_20.obj e_15
  obtain ⟨z_31, z_32, z_33, z_34, rfl⟩ := smX7 h_30
  obtain ⟨f_36, e_35⟩ := hj_20.arrI e_16
  have hsm := hsm.tr (hj_20.mono (by decide))
  have hlp_21 := hj_20
  refine lv_iload_n hx hb dX1_drawFrom_8 rfl (lv_at hl 0 rfl) ?_
  refine lv_aload_n hx hb dX1_drawFrom_9 rfl (lv_at hl 1 rfl) ?_
  refine va_get (D := D) (ci := 1) (v := .ref dg) (C := RX1) (T := TX1) (N := 2) hx hb hts hin1 hown hK hP kd e_23 rfl 0 (by decide) (hts (.fieldLink RX1 9 "HoneyHouse$Draught" "grams" "[I") (List.mem_of_getElem? (i := 1) rfl)) (fun _ h9 => h9) rfl dX1_drawFrom_10 ?_
  refine va_alen (v := 40) hx hb hK hP kdg tdg e_24 u_11 rfl dX1_drawFrom_13 ?_
  refine lv_icmp_ge (tgt := 35) hx hb dX1_drawFrom_14 (by decide) (fun c_37 => ?_) (fun c_37 => ?_)
  · refine lv_aload_n hx hb dX1_drawFrom_35 rfl (lv_at hl 2 rfl) ?_
    refine va_get (D := D) (ci := 7) (v := .int z_31) (C := RX7) (T := TX7) (N := 5) hx hb hts hin7 hown hK hP kv e_28 rfl 1 (by decide) (hts (.fieldLink RX1 29 "HoneyHouse$Vessel" "total" "I") (List.mem_of_getElem? (i := 2) rfl)) (fun _ h9 => h9) rfl dX1_drawFrom_36 ?_
    refine lv_if_ne (tgt := 47) hx hb dX1_drawFrom_39 (by decide) (fun c_38 => ?_) (fun c_38 => ?_)
    · exact W.vret hx hb hr (fun t ht hW => ⟨⟨(), rfl, trivial, ws_19, ty_4, hsm, htx, by rw [ht]; exact hP, va_K.moved hW.alike hK, hD, trivial⟩, hS.F ht⟩) hS.2.2 dX1_drawFrom_47
    refine lv_aload_n hx hb dX1_drawFrom_42 rfl (lv_at hl 2 rfl) ?_
    refine lv_iconst (v := 0) hx hb dX1_drawFrom_43 (by decide) ?_
    refine va_put (D := D) (ci := 7) (v := .int 0) (ty := .int) (C := RX7) (T := TX7) (N := 5) hx hb hts hin7 tyX7 tyX7_ok nmX7 hown hK hP hD hS kv e_28 rfl 2 (by decide) (hts (.fieldLink RX1 33 "HoneyHouse$Vessel" "heat" "I") (List.mem_of_getElem? (i := 3) rfl)) (fun _ h9 => h9) rfl (tyX7_ok 2 (by decide)) rfl rfl (Nat.le_of_ble_eq_true rfl) dX1_drawFrom_44 (fun H locs hP hD hS => ?_)
    have hP : va_P D vwCl (ws_19.set kv (v, .inr (7, [.ref g, .int z_31, .int 0, .int z_33, .int z_34]))) H := hP
    have hD : va_D A (ws_19.set kv (v, .inr (7, [.ref g, .int z_31, .int 0, .int z_33, .int z_34]))) := hD
    have hm_40 : sm ρ [7] ws_19 (ws_19.set kv (v, .inr (7, [.ref g, .int z_31, .int 0, .int z_33, .int z_34]))) := sm.flds e_28 (smF.c (smV.rf _) (smF.c (smV.rf _) (smF.c (smV.i _ _) (smF.c (smV.rf _) (smF.c (smV.rf _) (rfl)))))) (List.mem_singleton.mpr rfl) w_kv
    have e_41 : (ws_19.set kv (v, .inr (7, [.ref g, .int z_31, .int 0, .int z_33, .int z_34])))[kv]? = some (v, .inr (7, [.ref g, .int z_31, .int 0, .int z_33, .int z_34])) := wset_self e_28
    generalize ws_19.set kv (v, .inr (7, [.ref g, .int z_31, .int 0, .int z_33, .int z_34])) = ws_39 at hP hD hm_40 e_41
    have e_42 := hm_40.objK e_23 (by decide)
    obtain ⟨f_44, e_43⟩ := hm_40.arrI e_24
    obtain ⟨f_46, e_45⟩ := hm_40.arrJ e_26
    obtain ⟨f_48, e_47⟩ := hm_40.arrI e_35
    have hsm := hsm.tr (hm_40.mono (by decide))
    have hlp_21 := hlp_21.tr (hm_40.mono (by decide))
    exact W.vret hx hb hr (fun t ht hW => ⟨⟨(), rfl, trivial, ws_39, ty_4, hsm, htx, by rw [ht]; exact hP, va_K.moved hW.alike hK, hD, trivial⟩, hS.F ht⟩) hS.2.2 dX1_drawFrom_47
  have hlt : i < 40 := i_lt_of hi (by omega) rfl c_37
  refine lv_aload_n hx hb dX1_drawFrom_17 rfl (lv_at hl 2 rfl) ?_
  refine lv_iload_n hx hb dX1_drawFrom_18 rfl (lv_at hl 0 rfl) ?_
  refine lv_aload_n hx hb dX1_drawFrom_19 rfl (lv_at hl 1 rfl) ?_
  refine va_get (D := D) (ci := 1) (v := .ref dg) (C := RX1) (T := TX1) (N := 2) hx hb hts hin1 hown hK hP kd e_23 rfl 0 (by decide) (hts (.fieldLink RX1 9 "HoneyHouse$Draught" "grams" "[I") (List.mem_of_getElem? (i := 1) rfl)) (fun _ h9 => h9) rfl dX1_drawFrom_20 ?_
  refine lv_iload_n hx hb dX1_drawFrom_23 rfl (lv_at hl 0 rfl) ?_
  refine va_iald (f := f_25) (n := 40) hx hb hK hP kdg tdg e_24 u_11 (vp_in_nI hlt (by omega)) dX1_drawFrom_24 ?_
  refine lv_ineg hx hb dX1_drawFrom_25 ?_
  have hFc := free_all hD hS hA
  refine va_callv (va_runV (As := [.int (nI i), .int (-(f_25 (nI i).toNatClampNeg))]) (rest := []) ⟨hx, hb, hml, hown, hts⟩ (a_addGrams l D ρ ws_19 ty_4 v kv z_31 z_32 z_33 z_34 g kg cg tg f_36 (nI i) (-(f_25 (nI i).toNatClampNeg)) H.size e_28 e_35 u_18 w_kg w_kv) (cwV 2 hts gX1_drawFrom_X7_addGrams rfl rfl rfl (by decide +kernel) ⟨Nat.le_of_ble_eq_true rfl, Nat.le_of_ble_eq_true rfl⟩) ⟨fun a U g mk q => by obtain ⟨q0, q1, qP, qK, qD⟩ := q; exact ⟨q0, q1, qP, va_K.moved (u := U) (U := U.calling g mk a) (Vm.Alike.refl U.vm) qK, qD⟩, va_recv hK hP (ci := 7) (q0 := kv) rfl e_28, fun U hU hW => ⟨rfl, by rw [hU], by rw [hU]; exact hP, va_K.moved hW.alike hK, hD.weaken (fun _ _ _ _ => trivial)⟩⟩ rfl rfl hl.1 rfl (lv_room (Nat.le_of_ble_eq_true rfl)) dX1_drawFrom_26 ⟨Nat.le_of_ble_eq_true rfl, Nat.le_of_ble_eq_true rfl⟩) hS (fun q _ h => hFc q h) hFc (fun u t H1 locs ht hvm w_50 hB hz1 hk1 hS => ?_)
  obtain ⟨ws_51, ty_52, hm_53, ht_55, hP1, hK1, hD1, hx_54⟩ := hB
  rw [ht] at hP1
  have hK := va_K.moved hvm.symm hK1
  have hD := hD1.weaken (fun _ _ _ h => hFc _ h)
  generalize H1 = H at hP1 hS ⊢
  have hP := hP1
  have e_56 := hm_53.objK e_23 (by decide)
  obtain ⟨f_58, e_57⟩ := hm_53.arrI e_24
  have u_59 := ht_55 _ _ u_11
  obtain ⟨f_61, e_60⟩ := hm_53.arrJ e_26
  have u_62 := ht_55 _ _ u_14
  obtain ⟨g_64, e_63, h_65⟩ := hm_53.obj e_28
  obtain ⟨z_66, z_67, z_68, z_69, rfl⟩ := smX7 h_65
  obtain ⟨f_71, e_70⟩ := hm_53.arrI e_35
  have u_72 := ht_55 _ _ u_18
  have hsm := hsm.tr (hm_53.mono (by decide))
  have hlp_21 := hlp_21.tr (hm_53.mono (by decide))
  have htx := htx.tr ht_55
  refine lv_iinc (v := nI (i + 1)) (lv' := [(3, .int (nI (i + 1))), (0, .ref d), (1, .ref v), (2, .int a2)]) hx hb dX1_drawFrom_29 hl (k := 0) rfl (nI_1 i) (by decide) rfl (fun ls hl => ?_)
  refine lv_goto (tgt := 8) hx hb dX1_drawFrom_32 (by decide) ?_
  exact ih hlt () _ _ _ ls hlp_21 hP hD hS (lv_sub hl [0, 1, 2, 3] rfl)
