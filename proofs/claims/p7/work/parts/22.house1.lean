theorem dX8_warm_0 : decode cX8_warm 0 = .ok (.aload_n 0, 1) := by decide +kernel
theorem dX8_warm_1 : decode cX8_warm 1 = .ok (.iload_n 1, 1) := by decide +kernel
theorem dX8_warm_2 : decode cX8_warm 2 = .ok (.invokevirtual 139, 3) := by decide +kernel
theorem dX8_warm_5 : decode cX8_warm 5 = .ok (.astore_n 3, 1) := by decide +kernel
theorem dX8_warm_6 : decode cX8_warm 6 = .ok (.aload_n 3, 1) := by decide +kernel
theorem dX8_warm_7 : decode cX8_warm 7 = .ok (.ifnull 21, 3) := by decide +kernel
theorem dX8_warm_10 : decode cX8_warm 10 = .ok (.aload_n 3, 1) := by decide +kernel
theorem dX8_warm_11 : decode cX8_warm 11 = .ok (.getfield 144, 3) := by decide +kernel
theorem dX8_warm_14 : decode cX8_warm 14 = .ok (.ifCond .eq 14, 3) := by decide +kernel
theorem dX8_warm_17 : decode cX8_warm 17 = .ok (.iload_n 2, 1) := by decide +kernel
theorem dX8_warm_18 : decode cX8_warm 18 = .ok (.iconst 1, 1) := by decide +kernel
theorem dX8_warm_19 : decode cX8_warm 19 = .ok (.sipush 1000, 3) := by decide +kernel
theorem dX8_warm_22 : decode cX8_warm 22 = .ok (.invokestatic 85, 3) := by decide +kernel
theorem dX8_warm_25 : decode cX8_warm 25 = .ok (.ifCond .ne 5, 3) := by decide +kernel
theorem dX8_warm_28 : decode cX8_warm 28 = .ok (.iconst (-1), 1) := by decide +kernel
theorem dX8_warm_29 : decode cX8_warm 29 = .ok (.ireturn, 1) := by decide +kernel
theorem dX8_warm_30 : decode cX8_warm 30 = .ok (.aload_n 3, 1) := by decide +kernel
theorem dX8_warm_31 : decode cX8_warm 31 = .ok (.dup, 1) := by decide +kernel
theorem dX8_warm_32 : decode cX8_warm 32 = .ok (.getfield 160, 3) := by decide +kernel
theorem dX8_warm_35 : decode cX8_warm 35 = .ok (.iload_n 2, 1) := by decide +kernel
theorem dX8_warm_36 : decode cX8_warm 36 = .ok (.iadd, 1) := by decide +kernel
theorem dX8_warm_37 : decode cX8_warm 37 = .ok (.putfield 160, 3) := by decide +kernel
theorem dX8_warm_40 : decode cX8_warm 40 = .ok (.aload_n 3, 1) := by decide +kernel
theorem dX8_warm_41 : decode cX8_warm 41 = .ok (.getfield 160, 3) := by decide +kernel
theorem dX8_warm_44 : decode cX8_warm 44 = .ok (.ireturn, 1) := by decide +kernel
theorem dX8_tank_0 : decode cX8_tank 0 = .ok (.aload_n 0, 1) := by decide +kernel
theorem dX8_tank_1 : decode cX8_tank 1 = .ok (.iload_n 1, 1) := by decide +kernel
theorem dX8_tank_2 : decode cX8_tank 2 = .ok (.invokevirtual 139, 3) := by decide +kernel
theorem dX8_tank_5 : decode cX8_tank 5 = .ok (.astore 4, 2) := by decide +kernel
theorem dX8_tank_7 : decode cX8_tank 7 = .ok (.aload 4, 2) := by decide +kernel
theorem dX8_tank_9 : decode cX8_tank 9 = .ok (.ifnull 24, 3) := by decide +kernel
theorem dX8_tank_12 : decode cX8_tank 12 = .ok (.iload_n 2, 1) := by decide +kernel
theorem dX8_tank_13 : decode cX8_tank 13 = .ok (.iconst 0, 1) := by decide +kernel
theorem dX8_tank_14 : decode cX8_tank 14 = .ok (.ldc 143, 2) := by decide +kernel
theorem dX8_tank_16 : decode cX8_tank 16 = .ok (.invokestatic 85, 3) := by decide +kernel
theorem dX8_tank_19 : decode cX8_tank 19 = .ok (.ifCond .eq 14, 3) := by decide +kernel
theorem dX8_tank_22 : decode cX8_tank 22 = .ok (.iload_n 3, 1) := by decide +kernel
theorem dX8_tank_23 : decode cX8_tank 23 = .ok (.iconst 0, 1) := by decide +kernel
theorem dX8_tank_24 : decode cX8_tank 24 = .ok (.sipush 10000, 3) := by decide +kernel
theorem dX8_tank_27 : decode cX8_tank 27 = .ok (.invokestatic 85, 3) := by decide +kernel
theorem dX8_tank_30 : decode cX8_tank 30 = .ok (.ifCond .ne 5, 3) := by decide +kernel
theorem dX8_tank_33 : decode cX8_tank 33 = .ok (.iconst 0, 1) := by decide +kernel
theorem dX8_tank_34 : decode cX8_tank 34 = .ok (.ireturn, 1) := by decide +kernel
theorem dX8_tank_35 : decode cX8_tank 35 = .ok (.aload 4, 2) := by decide +kernel
theorem dX8_tank_37 : decode cX8_tank 37 = .ok (.getfield 144, 3) := by decide +kernel
theorem dX8_tank_40 : decode cX8_tank 40 = .ok (.iload_n 2, 1) := by decide +kernel
theorem dX8_tank_41 : decode cX8_tank 41 = .ok (.if_icmp .le 5, 3) := by decide +kernel
theorem dX8_tank_44 : decode cX8_tank 44 = .ok (.iconst 0, 1) := by decide +kernel
theorem dX8_tank_45 : decode cX8_tank 45 = .ok (.ireturn, 1) := by decide +kernel
theorem dX8_tank_46 : decode cX8_tank 46 = .ok (.aload 4, 2) := by decide +kernel
theorem dX8_tank_48 : decode cX8_tank 48 = .ok (.iload_n 2, 1) := by decide +kernel
theorem dX8_tank_49 : decode cX8_tank 49 = .ok (.putfield 147, 3) := by decide +kernel
theorem dX8_tank_52 : decode cX8_tank 52 = .ok (.aload 4, 2) := by decide +kernel
theorem dX8_tank_54 : decode cX8_tank 54 = .ok (.iload_n 3, 1) := by decide +kernel
theorem dX8_tank_55 : decode cX8_tank 55 = .ok (.putfield 150, 3) := by decide +kernel
theorem dX8_tank_58 : decode cX8_tank 58 = .ok (.iconst 1, 1) := by decide +kernel
theorem dX8_tank_59 : decode cX8_tank 59 = .ok (.ireturn, 1) := by decide +kernel
theorem dX8_spill_0 : decode cX8_spill 0 = .ok (.aload_n 0, 1) := by decide +kernel
theorem dX8_spill_1 : decode cX8_spill 1 = .ok (.iload_n 1, 1) := by decide +kernel
theorem dX8_spill_2 : decode cX8_spill 2 = .ok (.invokevirtual 139, 3) := by decide +kernel
theorem dX8_spill_5 : decode cX8_spill 5 = .ok (.astore_n 3, 1) := by decide +kernel
theorem dX8_spill_6 : decode cX8_spill 6 = .ok (.aload_n 3, 1) := by decide +kernel
theorem dX8_spill_7 : decode cX8_spill 7 = .ok (.ifnonnull 5, 3) := by decide +kernel
theorem dX8_spill_10 : decode cX8_spill 10 = .ok (.iconst (-1), 1) := by decide +kernel
theorem dX8_spill_11 : decode cX8_spill 11 = .ok (.ireturn, 1) := by decide +kernel
theorem dX8_spill_12 : decode cX8_spill 12 = .ok (.iload_n 2, 1) := by decide +kernel
theorem dX8_spill_13 : decode cX8_spill 13 = .ok (.iconst 1, 1) := by decide +kernel
theorem dX8_spill_14 : decode cX8_spill 14 = .ok (.aload_n 3, 1) := by decide +kernel
theorem dX8_spill_15 : decode cX8_spill 15 = .ok (.getfield 144, 3) := by decide +kernel
theorem dX8_spill_18 : decode cX8_spill 18 = .ok (.invokestatic 85, 3) := by decide +kernel
theorem dX8_spill_21 : decode cX8_spill 21 = .ok (.ifCond .ne 6, 3) := by decide +kernel
theorem dX8_spill_24 : decode cX8_spill 24 = .ok (.bipush (-2), 2) := by decide +kernel
theorem dX8_spill_26 : decode cX8_spill 26 = .ok (.ireturn, 1) := by decide +kernel
theorem dX8_spill_27 : decode cX8_spill 27 = .ok (.aload_n 0, 1) := by decide +kernel
theorem dX8_spill_28 : decode cX8_spill 28 = .ok (.getfield 47, 3) := by decide +kernel
theorem dX8_spill_31 : decode cX8_spill 31 = .ok (.aload_n 3, 1) := by decide +kernel
theorem dX8_spill_32 : decode cX8_spill 32 = .ok (.iload_n 2, 1) := by decide +kernel
theorem dX8_spill_33 : decode cX8_spill 33 = .ok (.invokevirtual 163, 3) := by decide +kernel
theorem dX8_spill_36 : decode cX8_spill 36 = .ok (.aload_n 3, 1) := by decide +kernel
theorem dX8_spill_37 : decode cX8_spill 37 = .ok (.getfield 144, 3) := by decide +kernel
theorem dX8_spill_40 : decode cX8_spill 40 = .ok (.ireturn, 1) := by decide +kernel
theorem dX8_move_0 : decode cX8_move 0 = .ok (.aload_n 0, 1) := by decide +kernel
theorem dX8_move_1 : decode cX8_move 1 = .ok (.iload_n 1, 1) := by decide +kernel
theorem dX8_move_2 : decode cX8_move 2 = .ok (.invokevirtual 139, 3) := by decide +kernel
theorem dX8_move_5 : decode cX8_move 5 = .ok (.astore 4, 2) := by decide +kernel
theorem dX8_move_7 : decode cX8_move 7 = .ok (.aload_n 0, 1) := by decide +kernel
theorem dX8_move_8 : decode cX8_move 8 = .ok (.iload_n 2, 1) := by decide +kernel
theorem dX8_move_9 : decode cX8_move 9 = .ok (.invokevirtual 139, 3) := by decide +kernel
theorem dX8_move_12 : decode cX8_move 12 = .ok (.astore 5, 2) := by decide +kernel
theorem dX8_move_14 : decode cX8_move 14 = .ok (.aload 4, 2) := by decide +kernel
theorem dX8_move_16 : decode cX8_move 16 = .ok (.ifnull 13, 3) := by decide +kernel
theorem dX8_move_19 : decode cX8_move 19 = .ok (.aload 5, 2) := by decide +kernel
theorem dX8_move_21 : decode cX8_move 21 = .ok (.ifnull 8, 3) := by decide +kernel
theorem dX8_move_24 : decode cX8_move 24 = .ok (.iload_n 1, 1) := by decide +kernel
theorem dX8_move_25 : decode cX8_move 25 = .ok (.iload_n 2, 1) := by decide +kernel
theorem dX8_move_26 : decode cX8_move 26 = .ok (.if_icmp .ne 5, 3) := by decide +kernel
theorem dX8_move_29 : decode cX8_move 29 = .ok (.iconst (-1), 1) := by decide +kernel
theorem dX8_move_30 : decode cX8_move 30 = .ok (.ireturn, 1) := by decide +kernel
theorem dX8_move_31 : decode cX8_move 31 = .ok (.iload_n 3, 1) := by decide +kernel
theorem dX8_move_32 : decode cX8_move 32 = .ok (.iconst 1, 1) := by decide +kernel
theorem dX8_move_33 : decode cX8_move 33 = .ok (.aload 4, 2) := by decide +kernel
theorem dX8_move_35 : decode cX8_move 35 = .ok (.getfield 144, 3) := by decide +kernel
theorem dX8_move_38 : decode cX8_move 38 = .ok (.invokestatic 85, 3) := by decide +kernel
theorem dX8_move_41 : decode cX8_move 41 = .ok (.ifCond .eq 12, 3) := by decide +kernel
theorem dX8_move_44 : decode cX8_move 44 = .ok (.aload 5, 2) := by decide +kernel
theorem dX8_move_46 : decode cX8_move 46 = .ok (.iload_n 3, 1) := by decide +kernel
theorem dX8_move_47 : decode cX8_move 47 = .ok (.invokevirtual 153, 3) := by decide +kernel
theorem dX8_move_50 : decode cX8_move 50 = .ok (.ifCond .ne 6, 3) := by decide +kernel
theorem dX8_move_53 : decode cX8_move 53 = .ok (.bipush (-2), 2) := by decide +kernel
theorem dX8_move_55 : decode cX8_move 55 = .ok (.ireturn, 1) := by decide +kernel
theorem dX8_move_56 : decode cX8_move 56 = .ok (.aload 4, 2) := by decide +kernel
theorem dX8_move_58 : decode cX8_move 58 = .ok (.getfield 160, 3) := by decide +kernel
theorem dX8_move_61 : decode cX8_move 61 = .ok (.istore 6, 2) := by decide +kernel
theorem dX8_move_63 : decode cX8_move 63 = .ok (.aload_n 0, 1) := by decide +kernel
theorem dX8_move_64 : decode cX8_move 64 = .ok (.getfield 47, 3) := by decide +kernel
theorem dX8_move_67 : decode cX8_move 67 = .ok (.aload 4, 2) := by decide +kernel
theorem dX8_move_69 : decode cX8_move 69 = .ok (.iload_n 3, 1) := by decide +kernel
theorem dX8_move_70 : decode cX8_move 70 = .ok (.invokevirtual 163, 3) := by decide +kernel
theorem dX8_move_73 : decode cX8_move 73 = .ok (.aload_n 0, 1) := by decide +kernel
theorem dX8_move_74 : decode cX8_move 74 = .ok (.getfield 47, 3) := by decide +kernel
theorem dX8_move_77 : decode cX8_move 77 = .ok (.aload 5, 2) := by decide +kernel
theorem dX8_move_79 : decode cX8_move 79 = .ok (.iload 6, 2) := by decide +kernel
theorem dX8_move_81 : decode cX8_move 81 = .ok (.invokevirtual 167, 3) := by decide +kernel
theorem dX8_move_84 : decode cX8_move 84 = .ok (.aload 4, 2) := by decide +kernel
theorem dX8_move_86 : decode cX8_move 86 = .ok (.getfield 144, 3) := by decide +kernel
theorem dX8_move_89 : decode cX8_move 89 = .ok (.ireturn, 1) := by decide +kernel
set_option maxRecDepth 20000 in
theorem ggX8_warm_X8_tankAt : GoodIn wsX8_warm wsX8_tankAt := goodIn_r _ [7, 8, 9, 10, 6, 11, 17, 18, 19, 20, 21, 22, 23, 24, 25, 26, 27, 28, 29, 30, 31] (by decide +kernel) (by decide +kernel)
set_option maxRecDepth 20000 in
theorem gX8_warm_X8_tankAt : GoodIn wsX8_warm (wsV RX8 139 RX8 yX8_tankAt wsX8_tankAt) := goodIn_app (goodIn_of _ (by decide +kernel)) ggX8_warm_X8_tankAt
set_option maxRecDepth 20000 in
theorem ggX8_warm_X8_isIn : GoodIn wsX8_warm wsX8_isIn := goodIn_r _ [11] (by decide +kernel) (by decide +kernel)
set_option maxRecDepth 20000 in
theorem gX8_warm_X8_isIn : GoodIn wsX8_warm (va_wsS RX8 85 yX8_isIn wsX8_isIn) := goodIn_app (goodIn_of _ (by decide +kernel)) ggX8_warm_X8_isIn
set_option maxRecDepth 20000 in
theorem ggX8_tank_X8_tankAt : GoodIn wsX8_tank wsX8_tankAt := goodIn_r _ [9, 10, 11, 12, 8, 13, 19, 20, 21, 22, 23, 24, 25, 26, 27, 28, 29, 30, 31, 32, 33] (by decide +kernel) (by decide +kernel)
set_option maxRecDepth 20000 in
theorem gX8_tank_X8_tankAt : GoodIn wsX8_tank (wsV RX8 139 RX8 yX8_tankAt wsX8_tankAt) := goodIn_app (goodIn_of _ (by decide +kernel)) ggX8_tank_X8_tankAt
set_option maxRecDepth 20000 in
theorem ggX8_tank_X8_isIn : GoodIn wsX8_tank wsX8_isIn := goodIn_r _ [13] (by decide +kernel) (by decide +kernel)
set_option maxRecDepth 20000 in
theorem gX8_tank_X8_isIn : GoodIn wsX8_tank (va_wsS RX8 85 yX8_isIn wsX8_isIn) := goodIn_app (goodIn_of _ (by decide +kernel)) ggX8_tank_X8_isIn
set_option maxRecDepth 20000 in
theorem ggX8_spill_X8_tankAt : GoodIn wsX8_spill wsX8_tankAt := goodIn_r _ [7, 8, 9, 10, 6, 11, 50, 51, 52, 53, 54, 55, 56, 57, 58, 59, 60, 61, 62, 63, 64] (by decide +kernel) (by decide +kernel)
set_option maxRecDepth 20000 in
theorem gX8_spill_X8_tankAt : GoodIn wsX8_spill (wsV RX8 139 RX8 yX8_tankAt wsX8_tankAt) := goodIn_app (goodIn_of _ (by decide +kernel)) ggX8_spill_X8_tankAt
set_option maxRecDepth 20000 in
theorem ggX8_spill_X8_isIn : GoodIn wsX8_spill wsX8_isIn := goodIn_r _ [11] (by decide +kernel) (by decide +kernel)
set_option maxRecDepth 20000 in
theorem gX8_spill_X8_isIn : GoodIn wsX8_spill (va_wsS RX8 85 yX8_isIn wsX8_isIn) := goodIn_app (goodIn_of _ (by decide +kernel)) ggX8_spill_X8_isIn
set_option maxRecDepth 20000 in
theorem ggX8_spill_X1_drawFrom : GoodIn wsX8_spill wsX1_drawFrom := goodIn_r _ [16, 17, 18, 19, 20, 21, 22, 15, 23, 24, 25, 26, 27, 28, 29, 30, 31, 32, 33, 34, 35, 36, 37, 38, 39, 40, 41, 42, 43, 44, 65, 66, 45, 46, 47, 48, 49] (by decide +kernel) (by decide +kernel)
set_option maxRecDepth 20000 in
theorem gX8_spill_X1_drawFrom : GoodIn wsX8_spill (wsV RX8 163 RX1 yX1_drawFrom wsX1_drawFrom) := goodIn_app (goodIn_of _ (by decide +kernel)) ggX8_spill_X1_drawFrom
set_option maxRecDepth 20000 in
theorem ggX8_move_X8_tankAt : GoodIn wsX8_move wsX8_tankAt := goodIn_r _ [8, 9, 10, 11, 7, 12, 64, 65, 66, 67, 68, 69, 70, 71, 72, 73, 74, 75, 76, 77, 78] (by decide +kernel) (by decide +kernel)
set_option maxRecDepth 20000 in
theorem gX8_move_X8_tankAt : GoodIn wsX8_move (wsV RX8 139 RX8 yX8_tankAt wsX8_tankAt) := goodIn_app (goodIn_of _ (by decide +kernel)) ggX8_move_X8_tankAt
set_option maxRecDepth 20000 in
theorem ggX8_move_X8_isIn : GoodIn wsX8_move wsX8_isIn := goodIn_r _ [12] (by decide +kernel) (by decide +kernel)
set_option maxRecDepth 20000 in
theorem gX8_move_X8_isIn : GoodIn wsX8_move (va_wsS RX8 85 yX8_isIn wsX8_isIn) := goodIn_app (goodIn_of _ (by decide +kernel)) ggX8_move_X8_isIn
set_option maxRecDepth 20000 in
theorem ggX8_move_X7_hasRoomFor : GoodIn wsX8_move wsX7_hasRoomFor := goodIn_r _ [17, 18, 19, 59, 60, 61, 62, 63] (by decide +kernel) (by decide +kernel)
set_option maxRecDepth 20000 in
theorem gX8_move_X7_hasRoomFor : GoodIn wsX8_move (wsV RX8 153 RX7 yX7_hasRoomFor wsX7_hasRoomFor) := goodIn_app (goodIn_of _ (by decide +kernel)) ggX8_move_X7_hasRoomFor
set_option maxRecDepth 20000 in
theorem ggX8_move_X1_drawFrom : GoodIn wsX8_move wsX1_drawFrom := goodIn_r _ [24, 25, 26, 27, 28, 29, 30, 23, 31, 32, 33, 34, 35, 36, 37, 38, 39, 40, 16, 41, 42, 43, 44, 45, 46, 47, 48, 49, 50, 19, 79, 80, 59, 60, 61, 62, 63] (by decide +kernel) (by decide +kernel)
set_option maxRecDepth 20000 in
theorem gX8_move_X1_drawFrom : GoodIn wsX8_move (wsV RX8 163 RX1 yX1_drawFrom wsX1_drawFrom) := goodIn_app (goodIn_of _ (by decide +kernel)) ggX8_move_X1_drawFrom
set_option maxRecDepth 20000 in
theorem ggX8_move_X1_fillInto : GoodIn wsX8_move wsX1_fillInto := goodIn_r _ [54, 26, 27, 55, 56, 57, 58, 25, 47, 48, 49, 16, 50, 42, 19, 59, 60, 61, 62, 63, 79, 80] (by decide +kernel) (by decide +kernel)
set_option maxRecDepth 20000 in
theorem gX8_move_X1_fillInto : GoodIn wsX8_move (wsV RX8 167 RX1 yX1_fillInto wsX1_fillInto) := goodIn_app (goodIn_of _ (by decide +kernel)) ggX8_move_X1_fillInto
set_option maxHeartbeats 4000000 in
set_option maxRecDepth 100000 in
theorem h_warm (l : Launch) (D : va_G) (ρ : Nat → Nat) (ws : va_W) (tys : List (ClassId × FieldType)) (fv : Nat → Nat → Int32) (h0 lc bc rc fc : Nat) (dn : Int32) (tl : Nat) (a1 a2 : Int32) (sz : Nat) (X : XI ρ fv ws tys h0 lc bc rc fc dn tl) : Met l yX8_warm wsX8_warm ({ frames := 2, cells := 0, slots := 0, locals := 43 }) (va_Pc [.ref h0, .int a1, .int a2] (fun U => U.heap.size = sz ∧ va_P D vwCl ws U.heap ∧ va_K D vwCl tys U ∧ va_D (fun _ => True) ws)) (va_Qi (fun (r : Int32) (_ : Unit) => True) (fun (_ : Unit) (t : State) => ∃ (ws' : va_W) (tys' : List (ClassId × FieldType)), sm ρ [7] ws ws' ∧ tyx tys tys' ∧ va_P D vwCl ws' t.heap ∧ va_K D vwCl tys' t ∧ va_D (va_A ws sz) ws' ∧ (XI ρ fv ws' tys' h0 lc bc rc fc dn tl)) (va_A ws sz)) 0 0 (va_A ws sz) := by
  refine Met.ofW (cc := cX8_warm) (maxL := 4) (ret := (some .int)) (by decide) rfl ?_
  intro p e s m args below meth c s₁ B hml hv
  obtain ⟨rfl, hsz, hP, hK, hD0⟩ := hv
  have hx := B.exec
  have hb := B.bytes
  have hr := B.returns
  have hts := atoms_spec (ws := wsX8_warm) B.pre
  have hown : s.vm.findClass RX8 = some m.cls := findClass_of_methodNamed B.named
  have hlocks := B.notSynchronized
  subst hsz
  have hD := hD0.self (sz := s.heap.size)
  generalize hAe : va_A ws s.heap.size = A at hD ⊢
  have hA : ∀ q : Nat, s.heap.size ≤ q → A q := fun q h => by rw [← hAe]; exact Or.inr h
  have hS : va_S A s.heap s.heap [] := va_S.rf
  have hsm : sm ρ [7] ws ws := sm.rf ws
  have htx : tyx tys tys := tyx.rf tys
  have hin7 : ∀ w ∈ u_ws RX7 TX7 5, w ∈ wsX8_warm := (fun _ h9 => List.mem_cons_of_mem _ (List.mem_append_left _ ((List.mem_append_right _ h9))))
  have hl := lv_entry ([.ref h0, .int a1, .int a2]) (n := 4) (Nat.le_of_ble_eq_true rfl)
  rw [lg_entry_eq]
  generalize (lg_sl ([.ref h0, .int a1, .int a2]) ++ List.replicate (4 - (lg_sl ([.ref h0, .int a1, .int a2])).length) Slot.unset).toArray = ls at hl ⊢
  have hl : lv_has ls 4 [(0, .ref h0), (1, .int a1), (2, .int a2)] := hl
  obtain ⟨k0, la, ta, ba, ra, sn, rd, dr, bl, vd, fb, e0, w0, hle0, hnum, qla, qta, qba, qra, qsn, qrd, qdr, qbl, qvd, qfb⟩ := id X
  obtain ⟨kta, cta, tta, fta, eta, uta, pta⟩ := id qta
  refine lv_aload_n hx hb dX8_warm_0 rfl (lv_at hl 0 rfl) ?_
  refine lv_iload_n hx hb dX8_warm_1 rfl (lv_at hl 1 rfl) ?_
  refine va_csq (W.runV (As := [.int a1]) (rest := []) ⟨hx, hb, hml, hown, hts⟩ (s_X8_tankAt l D ws tys h0 k0 _ ta kta cta fta tta a1 e0 rfl eta uta) (cwV 1 hts gX8_warm_X8_tankAt rfl rfl rfl (by decide +kernel) ⟨Nat.le_of_ble_eq_true rfl, Nat.le_of_ble_eq_true rfl⟩) ⟨fun a U g mk q => ⟨q.1, q.2.1, va_K.moved (u := U) (U := U.calling g mk a) (Vm.Alike.refl U.vm) q.2.2⟩, va_recv hK hP (ci := 8) (q0 := k0) rfl e0, fun U hU hW => ⟨rfl, by rw [hU]; exact hP, va_K.moved hW.alike hK⟩⟩ rfl rfl hl.1 rfl (lv_room (Nat.le_of_ble_eq_true rfl)) dX8_warm_2 ⟨Nat.le_of_ble_eq_true rfl, Nat.le_of_ble_eq_true rfl⟩) (fun r_1 k_2 => ?_)
  have hz_5 : r_1 = none ∨ ∃ v, r_1 = some v ∧ oV ρ ws tys v := by
    rcases k_2 with ⟨q, -⟩ | ⟨-, -, q⟩
    · exact Or.inl q
    · rcases r_1 with _ | v
      · exact Or.inl rfl
      · exact Or.inr ⟨v, rfl, pta _ _ q.symm⟩
  rcases hz_5 with rfl | ⟨v_3, rfl, hv_4⟩
  · refine tp_v (y := .null) rfl ?_
    refine lv_astore_nN (lv' := [(3, .null), (0, .ref h0), (1, .int a1), (2, .int a2)]) hx hb dX8_warm_5 rfl hl (by decide) rfl (fun ls hl => ?_)
    refine lv_aload_nN hx hb dX8_warm_6 rfl (lv_at hl 0 rfl) ?_
    refine lv_ifnullN (tgt := 28) hx hb dX8_warm_7 (by decide) ?_
    refine lv_iconst (v := (-1)) hx hb dX8_warm_28 (by decide) ?_
    exact W.iret (v := (-1)) hx hb hr (fun t ht hW => ⟨⟨(-1), (), rfl, trivial, ws, tys, hsm, htx, by rw [ht]; exact hP, va_K.moved hW.alike hK, hD, X.sm hsm htx (by decide) (by decide)⟩, hS.F ht⟩) hS.2.2 dX8_warm_29
  obtain ⟨k_7, g_8, x_9, x_10, x_11, x_12, e_13, w_20, k_14, c9_15, t_16, f_17, e_18, u_19, w_21⟩ := hv_4.sm hsm htx
  refine tp_v (y := .ref v_3) rfl ?_
  refine lv_astore_n (lv' := [(3, .ref v_3), (0, .ref h0), (1, .int a1), (2, .int a2)]) hx hb dX8_warm_5 rfl hl (by decide) rfl (fun ls hl => ?_)
  refine lv_aload_n hx hb dX8_warm_6 rfl (lv_at hl 0 rfl) ?_
  refine lv_ifnull hx hb dX8_warm_7 ?_
  refine lv_aload_n hx hb dX8_warm_10 rfl (lv_at hl 0 rfl) ?_
  refine va_get (D := D) (ci := 7) (v := .int x_9) (C := RX7) (T := TX7) (N := 5) hx hb hts hin7 hown hK hP k_7 e_13 rfl 1 (by decide) (hts (.fieldLink RX8 144 "HoneyHouse$Vessel" "total" "I") (List.mem_of_getElem? (i := 1) rfl)) (fun _ h9 => h9) rfl dX8_warm_11 ?_
  refine lv_if_eq (tgt := 28) hx hb dX8_warm_14 (by decide) (fun c_22 => ?_) (fun c_22 => ?_)
  · refine lv_iconst (v := (-1)) hx hb dX8_warm_28 (by decide) ?_
    exact W.iret (v := (-1)) hx hb hr (fun t ht hW => ⟨⟨(-1), (), rfl, trivial, ws, tys, hsm, htx, by rw [ht]; exact hP, va_K.moved hW.alike hK, hD, X.sm hsm htx (by decide) (by decide)⟩, hS.F ht⟩) hS.2.2 dX8_warm_29
  refine lv_iload_n hx hb dX8_warm_17 rfl (lv_at hl 3 rfl) ?_
  refine lv_iconst (v := 1) hx hb dX8_warm_18 (by decide) ?_
  refine lv_sipush (v := 1000) hx hb dX8_warm_19 (by decide) ?_
  refine vp_callSi (W.runS (As := [.int a2, .int 1, .int 1000]) (rest := []) ⟨hx, hb, hml, hown, hts⟩ (s_X8_isIn l a2 1 1000) (va_cwS 3 hts gX8_warm_X8_isIn rfl rfl rfl (by decide +kernel) ⟨Nat.le_of_ble_eq_true rfl, Nat.le_of_ble_eq_true rfl⟩) ⟨fun a U g mk q => q, fun U hU hW => ⟨rfl, trivial⟩⟩ rfl rfl hl.1 rfl (lv_room (Nat.le_of_ble_eq_true rfl)) dX8_warm_22 ⟨Nat.le_of_ble_eq_true rfl, Nat.le_of_ble_eq_true rfl⟩) (fun r_23 k_24 => ?_)
  rcases k_24 with ⟨rfl, -⟩ | ⟨rfl, -, -⟩
  · refine lv_if_ne (tgt := 30) hx hb dX8_warm_25 (by decide) (fun c_25 => absurd (by decide) c_25) (fun c_25 => ?_)
    refine lv_iconst (v := (-1)) hx hb dX8_warm_28 (by decide) ?_
    exact W.iret (v := (-1)) hx hb hr (fun t ht hW => ⟨⟨(-1), (), rfl, trivial, ws, tys, hsm, htx, by rw [ht]; exact hP, va_K.moved hW.alike hK, hD, X.sm hsm htx (by decide) (by decide)⟩, hS.F ht⟩) hS.2.2 dX8_warm_29
  refine lv_if_ne (tgt := 30) hx hb dX8_warm_25 (by decide) (fun c_26 => ?_) (fun c_26 => absurd c_26 (by decide))
  refine lv_aload_n hx hb dX8_warm_30 rfl (lv_at hl 0 rfl) ?_
  refine lv_dup hx hb dX8_warm_31 rfl ?_
  refine va_get (D := D) (ci := 7) (v := .int x_10) (C := RX7) (T := TX7) (N := 5) hx hb hts hin7 hown hK hP k_7 e_13 rfl 2 (by decide) (hts (.fieldLink RX8 160 "HoneyHouse$Vessel" "heat" "I") (List.mem_of_getElem? (i := 2) rfl)) (fun _ h9 => h9) rfl dX8_warm_32 ?_
  refine lv_iload_n hx hb dX8_warm_35 rfl (lv_at hl 3 rfl) ?_
  refine lv_iadd hx hb dX8_warm_36 ?_
  refine va_put (D := D) (ci := 7) (v := .int (x_10 + a2)) (ty := .int) (C := RX7) (T := TX7) (N := 5) hx hb hts hin7 tyX7 tyX7_ok nmX7 hown hK hP hD hS k_7 e_13 rfl 2 (by decide) (hts (.fieldLink RX8 160 "HoneyHouse$Vessel" "heat" "I") (List.mem_of_getElem? (i := 2) rfl)) (fun _ h9 => h9) rfl (tyX7_ok 2 (by decide)) rfl rfl (Nat.le_of_ble_eq_true rfl) dX8_warm_37 (fun H locs hP hD hS => ?_)
  have hP : va_P D vwCl (ws.set k_7 (v_3, .inr (7, [.ref g_8, .int x_9, .int (x_10 + a2), .int x_11, .int x_12]))) H := hP
  have hD : va_D A (ws.set k_7 (v_3, .inr (7, [.ref g_8, .int x_9, .int (x_10 + a2), .int x_11, .int x_12]))) := hD
  have hm_28 : sm ρ [7] ws (ws.set k_7 (v_3, .inr (7, [.ref g_8, .int x_9, .int (x_10 + a2), .int x_11, .int x_12]))) := sm.flds e_13 (smF.c (smV.rf _) (smF.c (smV.rf _) (smF.c (smV.i _ _) (smF.c (smV.rf _) (smF.c (smV.rf _) (rfl)))))) (List.mem_singleton.mpr rfl) w_20
  have e_29 : (ws.set k_7 (v_3, .inr (7, [.ref g_8, .int x_9, .int (x_10 + a2), .int x_11, .int x_12])))[k_7]? = some (v_3, .inr (7, [.ref g_8, .int x_9, .int (x_10 + a2), .int x_11, .int x_12])) := wset_self e_13
  generalize ws.set k_7 (v_3, .inr (7, [.ref g_8, .int x_9, .int (x_10 + a2), .int x_11, .int x_12])) = ws_27 at hP hD hm_28 e_29
  have e_30 := hm_28.objK e0 (by decide)
  have e_31 := hm_28.arrQ eta
  obtain ⟨f_33, e_32⟩ := hm_28.arrI e_18
  have hsm := hsm.tr (hm_28.mono (by decide))
  refine lv_aload_n hx hb dX8_warm_40 rfl (lv_at hl 0 rfl) ?_
  refine va_get (D := D) (ci := 7) (v := .int (x_10 + a2)) (C := RX7) (T := TX7) (N := 5) hx hb hts hin7 hown hK hP k_7 e_29 rfl 2 (by decide) (hts (.fieldLink RX8 160 "HoneyHouse$Vessel" "heat" "I") (List.mem_of_getElem? (i := 2) rfl)) (fun _ h9 => h9) rfl dX8_warm_41 ?_
  exact W.iret (v := x_10 + a2) hx hb hr (fun t ht hW => ⟨⟨x_10 + a2, (), rfl, trivial, ws_27, tys, hsm, htx, by rw [ht]; exact hP, va_K.moved hW.alike hK, hD, X.sm hsm htx (by decide) (by decide)⟩, hS.F ht⟩) hS.2.2 dX8_warm_44
set_option maxHeartbeats 4000000 in
set_option maxRecDepth 100000 in
theorem h_tank (l : Launch) (D : va_G) (ρ : Nat → Nat) (ws : va_W) (tys : List (ClassId × FieldType)) (fv : Nat → Nat → Int32) (h0 lc bc rc fc : Nat) (dn : Int32) (tl : Nat) (a1 a2 a3 : Int32) (sz : Nat) (X : XI ρ fv ws tys h0 lc bc rc fc dn tl) : Met l yX8_tank wsX8_tank ({ frames := 2, cells := 0, slots := 0, locals := 43 }) (va_Pc [.ref h0, .int a1, .int a2, .int a3] (fun U => U.heap.size = sz ∧ va_P D vwCl ws U.heap ∧ va_K D vwCl tys U ∧ va_D (fun _ => True) ws)) (va_Qi (fun (r : Int32) (_ : Unit) => True) (fun (_ : Unit) (t : State) => ∃ (ws' : va_W) (tys' : List (ClassId × FieldType)), sm ρ [7] ws ws' ∧ tyx tys tys' ∧ va_P D vwCl ws' t.heap ∧ va_K D vwCl tys' t ∧ va_D (va_A ws sz) ws' ∧ (XI ρ fv ws' tys' h0 lc bc rc fc dn tl)) (va_A ws sz)) 0 0 (va_A ws sz) := by
  refine Met.ofW (cc := cX8_tank) (maxL := 5) (ret := (some .boolean)) (by decide) rfl ?_
  intro p e s m args below meth c s₁ B hml hv
  obtain ⟨rfl, hsz, hP, hK, hD0⟩ := hv
  have hx := B.exec
  have hb := B.bytes
  have hr := B.returns
  have hts := atoms_spec (ws := wsX8_tank) B.pre
  have hown : s.vm.findClass RX8 = some m.cls := findClass_of_methodNamed B.named
  have hlocks := B.notSynchronized
  subst hsz
  have hD := hD0.self (sz := s.heap.size)
  generalize hAe : va_A ws s.heap.size = A at hD ⊢
  have hA : ∀ q : Nat, s.heap.size ≤ q → A q := fun q h => by rw [← hAe]; exact Or.inr h
  have hS : va_S A s.heap s.heap [] := va_S.rf
  have hsm : sm ρ [7] ws ws := sm.rf ws
  have htx : tyx tys tys := tyx.rf tys
  have hin7 : ∀ w ∈ u_ws RX7 TX7 5, w ∈ wsX8_tank := (fun _ h9 => List.mem_cons_of_mem _ (List.mem_append_left _ ((List.mem_append_right _ h9))))
  have hl := lv_entry ([.ref h0, .int a1, .int a2, .int a3]) (n := 5) (Nat.le_of_ble_eq_true rfl)
  rw [lg_entry_eq]
  generalize (lg_sl ([.ref h0, .int a1, .int a2, .int a3]) ++ List.replicate (5 - (lg_sl ([.ref h0, .int a1, .int a2, .int a3])).length) Slot.unset).toArray = ls at hl ⊢
  have hl : lv_has ls 5 [(0, .ref h0), (1, .int a1), (2, .int a2), (3, .int a3)] := hl
  obtain ⟨k0, la, ta, ba, ra, sn, rd, dr, bl, vd, fb, e0, w0, hle0, hnum, qla, qta, qba, qra, qsn, qrd, qdr, qbl, qvd, qfb⟩ := id X
  obtain ⟨kta, cta, tta, fta, eta, uta, pta⟩ := id qta
  refine lv_aload_n hx hb dX8_tank_0 rfl (lv_at hl 0 rfl) ?_
  refine lv_iload_n hx hb dX8_tank_1 rfl (lv_at hl 1 rfl) ?_
  refine va_csq (W.runV (As := [.int a1]) (rest := []) ⟨hx, hb, hml, hown, hts⟩ (s_X8_tankAt l D ws tys h0 k0 _ ta kta cta fta tta a1 e0 rfl eta uta) (cwV 1 hts gX8_tank_X8_tankAt rfl rfl rfl (by decide +kernel) ⟨Nat.le_of_ble_eq_true rfl, Nat.le_of_ble_eq_true rfl⟩) ⟨fun a U g mk q => ⟨q.1, q.2.1, va_K.moved (u := U) (U := U.calling g mk a) (Vm.Alike.refl U.vm) q.2.2⟩, va_recv hK hP (ci := 8) (q0 := k0) rfl e0, fun U hU hW => ⟨rfl, by rw [hU]; exact hP, va_K.moved hW.alike hK⟩⟩ rfl rfl hl.1 rfl (lv_room (Nat.le_of_ble_eq_true rfl)) dX8_tank_2 ⟨Nat.le_of_ble_eq_true rfl, Nat.le_of_ble_eq_true rfl⟩) (fun r_1 k_2 => ?_)
  have hz_5 : r_1 = none ∨ ∃ v, r_1 = some v ∧ oV ρ ws tys v := by
    rcases k_2 with ⟨q, -⟩ | ⟨-, -, q⟩
    · exact Or.inl q
    · rcases r_1 with _ | v
      · exact Or.inl rfl
      · exact Or.inr ⟨v, rfl, pta _ _ q.symm⟩
  rcases hz_5 with rfl | ⟨v_3, rfl, hv_4⟩
  · refine tp_v (y := .null) rfl ?_
    refine lv_astoreN (lv' := [(4, .null), (0, .ref h0), (1, .int a1), (2, .int a2), (3, .int a3)]) hx hb dX8_tank_5 hl (by decide) rfl (fun ls hl => ?_)
    refine lv_aloadN hx hb dX8_tank_7 (lv_at hl 0 rfl) ?_
    refine lv_ifnullN (tgt := 33) hx hb dX8_tank_9 (by decide) ?_
    refine lv_iconst (v := 0) hx hb dX8_tank_33 (by decide) ?_
    exact W.zret (v := 0) hx hb hr rfl (fun t ht hW => ⟨⟨0, (), rfl, trivial, ws, tys, hsm, htx, by rw [ht]; exact hP, va_K.moved hW.alike hK, hD, X.sm hsm htx (by decide) (by decide)⟩, hS.F ht⟩) hS.2.2 dX8_tank_34
  obtain ⟨k_7, g_8, x_9, x_10, x_11, x_12, e_13, w_20, k_14, c9_15, t_16, f_17, e_18, u_19, w_21⟩ := hv_4.sm hsm htx
  refine tp_v (y := .ref v_3) rfl ?_
  refine lv_astore (lv' := [(4, .ref v_3), (0, .ref h0), (1, .int a1), (2, .int a2), (3, .int a3)]) hx hb dX8_tank_5 hl (by decide) rfl (fun ls hl => ?_)
  refine lv_aload hx hb dX8_tank_7 (lv_at hl 0 rfl) ?_
  refine lv_ifnull hx hb dX8_tank_9 ?_
  refine lv_iload_n hx hb dX8_tank_12 rfl (lv_at hl 3 rfl) ?_
  refine lv_iconst (v := 0) hx hb dX8_tank_13 (by decide) ?_
  refine lv_ldc hx hb hown (hts (.constant RX8 143 (1000000)) (List.mem_of_getElem? (i := 1) rfl)) dX8_tank_14 ?_
  refine vp_callSi (W.runS (As := [.int a2, .int 0, .int 1000000]) (rest := []) ⟨hx, hb, hml, hown, hts⟩ (s_X8_isIn l a2 0 1000000) (va_cwS 3 hts gX8_tank_X8_isIn rfl rfl rfl (by decide +kernel) ⟨Nat.le_of_ble_eq_true rfl, Nat.le_of_ble_eq_true rfl⟩) ⟨fun a U g mk q => q, fun U hU hW => ⟨rfl, trivial⟩⟩ rfl rfl hl.1 rfl (lv_room (Nat.le_of_ble_eq_true rfl)) dX8_tank_16 ⟨Nat.le_of_ble_eq_true rfl, Nat.le_of_ble_eq_true rfl⟩) (fun r_22 k_23 => ?_)
  rcases k_23 with ⟨rfl, -⟩ | ⟨rfl, -, -⟩
  · refine lv_if_eq (tgt := 33) hx hb dX8_tank_19 (by decide) (fun c_24 => ?_) (fun c_24 => absurd (by decide) c_24)
    refine lv_iconst (v := 0) hx hb dX8_tank_33 (by decide) ?_
    exact W.zret (v := 0) hx hb hr rfl (fun t ht hW => ⟨⟨0, (), rfl, trivial, ws, tys, hsm, htx, by rw [ht]; exact hP, va_K.moved hW.alike hK, hD, X.sm hsm htx (by decide) (by decide)⟩, hS.F ht⟩) hS.2.2 dX8_tank_34
  refine lv_if_eq (tgt := 33) hx hb dX8_tank_19 (by decide) (fun c_25 => absurd c_25 (by decide)) (fun c_25 => ?_)
  refine lv_iload_n hx hb dX8_tank_22 rfl (lv_at hl 4 rfl) ?_
  refine lv_iconst (v := 0) hx hb dX8_tank_23 (by decide) ?_
  refine lv_sipush (v := 10000) hx hb dX8_tank_24 (by decide) ?_
  refine vp_callSi (W.runS (As := [.int a3, .int 0, .int 10000]) (rest := []) ⟨hx, hb, hml, hown, hts⟩ (s_X8_isIn l a3 0 10000) (va_cwS 3 hts gX8_tank_X8_isIn rfl rfl rfl (by decide +kernel) ⟨Nat.le_of_ble_eq_true rfl, Nat.le_of_ble_eq_true rfl⟩) ⟨fun a U g mk q => q, fun U hU hW => ⟨rfl, trivial⟩⟩ rfl rfl hl.1 rfl (lv_room (Nat.le_of_ble_eq_true rfl)) dX8_tank_27 ⟨Nat.le_of_ble_eq_true rfl, Nat.le_of_ble_eq_true rfl⟩) (fun r_26 k_27 => ?_)
  rcases k_27 with ⟨rfl, -⟩ | ⟨rfl, -, -⟩
  · refine lv_if_ne (tgt := 35) hx hb dX8_tank_30 (by decide) (fun c_28 => absurd (by decide) c_28) (fun c_28 => ?_)
    refine lv_iconst (v := 0) hx hb dX8_tank_33 (by decide) ?_
    exact W.zret (v := 0) hx hb hr rfl (fun t ht hW => ⟨⟨0, (), rfl, trivial, ws, tys, hsm, htx, by rw [ht]; exact hP, va_K.moved hW.alike hK, hD, X.sm hsm htx (by decide) (by decide)⟩, hS.F ht⟩) hS.2.2 dX8_tank_34
  refine lv_if_ne (tgt := 35) hx hb dX8_tank_30 (by decide) (fun c_29 => ?_) (fun c_29 => absurd c_29 (by decide))
  refine lv_aload hx hb dX8_tank_35 (lv_at hl 0 rfl) ?_
  refine va_get (D := D) (ci := 7) (v := .int x_9) (C := RX7) (T := TX7) (N := 5) hx hb hts hin7 hown hK hP k_7 e_13 rfl 1 (by decide) (hts (.fieldLink RX8 144 "HoneyHouse$Vessel" "total" "I") (List.mem_of_getElem? (i := 2) rfl)) (fun _ h9 => h9) rfl dX8_tank_37 ?_
  refine lv_iload_n hx hb dX8_tank_40 rfl (lv_at hl 3 rfl) ?_
  refine lv_icmp_le (tgt := 46) hx hb dX8_tank_41 (by decide) (fun c_30 => ?_) (fun c_30 => ?_)
  · refine lv_aload hx hb dX8_tank_46 (lv_at hl 0 rfl) ?_
    refine lv_iload_n hx hb dX8_tank_48 rfl (lv_at hl 3 rfl) ?_
    refine va_put (D := D) (ci := 7) (v := .int a2) (ty := .int) (C := RX7) (T := TX7) (N := 5) hx hb hts hin7 tyX7 tyX7_ok nmX7 hown hK hP hD hS k_7 e_13 rfl 3 (by decide) (hts (.fieldLink RX8 147 "HoneyHouse$Vessel" "roomOrTank" "I") (List.mem_of_getElem? (i := 3) rfl)) (fun _ h9 => h9) rfl (tyX7_ok 3 (by decide)) rfl rfl (Nat.le_of_ble_eq_true rfl) dX8_tank_49 (fun H locs hP hD hS => ?_)
    have hP : va_P D vwCl (ws.set k_7 (v_3, .inr (7, [.ref g_8, .int x_9, .int x_10, .int a2, .int x_12]))) H := hP
    have hD : va_D A (ws.set k_7 (v_3, .inr (7, [.ref g_8, .int x_9, .int x_10, .int a2, .int x_12]))) := hD
    have hm_32 : sm ρ [7] ws (ws.set k_7 (v_3, .inr (7, [.ref g_8, .int x_9, .int x_10, .int a2, .int x_12]))) := sm.flds e_13 (smF.c (smV.rf _) (smF.c (smV.rf _) (smF.c (smV.rf _) (smF.c (smV.i _ _) (smF.c (smV.rf _) (rfl)))))) (List.mem_singleton.mpr rfl) w_20
    have e_33 : (ws.set k_7 (v_3, .inr (7, [.ref g_8, .int x_9, .int x_10, .int a2, .int x_12])))[k_7]? = some (v_3, .inr (7, [.ref g_8, .int x_9, .int x_10, .int a2, .int x_12])) := wset_self e_13
    generalize ws.set k_7 (v_3, .inr (7, [.ref g_8, .int x_9, .int x_10, .int a2, .int x_12])) = ws_31 at hP hD hm_32 e_33
    have e_34 := hm_32.objK e0 (by decide)
    have e_35 := hm_32.arrQ eta
    obtain ⟨f_37, e_36⟩ := hm_32.arrI e_18
    have hsm := hsm.tr (hm_32.mono (by decide))
    refine lv_aload hx hb dX8_tank_52 (lv_at hl 0 rfl) ?_
    refine lv_iload_n hx hb dX8_tank_54 rfl (lv_at hl 4 rfl) ?_
    refine va_put (D := D) (ci := 7) (v := .int a3) (ty := .int) (C := RX7) (T := TX7) (N := 5) hx hb hts hin7 tyX7 tyX7_ok nmX7 hown hK hP hD hS k_7 e_33 rfl 4 (by decide) (hts (.fieldLink RX8 150 "HoneyHouse$Vessel" "priceOrDay" "I") (List.mem_of_getElem? (i := 4) rfl)) (fun _ h9 => h9) rfl (tyX7_ok 4 (by decide)) rfl rfl (Nat.le_of_ble_eq_true rfl) dX8_tank_55 (fun H locs hP hD hS => ?_)
    have hP : va_P D vwCl (ws_31.set k_7 (v_3, .inr (7, [.ref g_8, .int x_9, .int x_10, .int a2, .int a3]))) H := hP
    have hD : va_D A (ws_31.set k_7 (v_3, .inr (7, [.ref g_8, .int x_9, .int x_10, .int a2, .int a3]))) := hD
    have hm_39 : sm ρ [7] ws_31 (ws_31.set k_7 (v_3, .inr (7, [.ref g_8, .int x_9, .int x_10, .int a2, .int a3]))) := sm.flds e_33 (smF.c (smV.rf _) (smF.c (smV.rf _) (smF.c (smV.rf _) (smF.c (smV.rf _) (smF.c (smV.i _ _) (rfl)))))) (List.mem_singleton.mpr rfl) w_20
    have e_40 : (ws_31.set k_7 (v_3, .inr (7, [.ref g_8, .int x_9, .int x_10, .int a2, .int a3])))[k_7]? = some (v_3, .inr (7, [.ref g_8, .int x_9, .int x_10, .int a2, .int a3])) := wset_self e_33
    generalize ws_31.set k_7 (v_3, .inr (7, [.ref g_8, .int x_9, .int x_10, .int a2, .int a3])) = ws_38 at hP hD hm_39 e_40
    have e_41 := hm_39.objK e_34 (by decide)
    have e_42 := hm_39.arrQ e_35
    obtain ⟨f_44, e_43⟩ := hm_39.arrI e_36
    have hsm := hsm.tr (hm_39.mono (by decide))
    refine lv_iconst (v := 1) hx hb dX8_tank_58 (by decide) ?_
    exact W.zret (v := 1) hx hb hr rfl (fun t ht hW => ⟨⟨1, (), rfl, trivial, ws_38, tys, hsm, htx, by rw [ht]; exact hP, va_K.moved hW.alike hK, hD, X.sm hsm htx (by decide) (by decide)⟩, hS.F ht⟩) hS.2.2 dX8_tank_59
  refine lv_iconst (v := 0) hx hb dX8_tank_44 (by decide) ?_
  exact W.zret (v := 0) hx hb hr rfl (fun t ht hW => ⟨⟨0, (), rfl, trivial, ws, tys, hsm, htx, by rw [ht]; exact hP, va_K.moved hW.alike hK, hD, X.sm hsm htx (by decide) (by decide)⟩, hS.F ht⟩) hS.2.2 dX8_tank_45
set_option maxHeartbeats 4000000 in
set_option maxRecDepth 100000 in
theorem h_spill (l : Launch) (D : va_G) (ρ : Nat → Nat) (ws : va_W) (tys : List (ClassId × FieldType)) (fv : Nat → Nat → Int32) (h0 lc bc rc fc : Nat) (dn : Int32) (tl : Nat) (a1 a2 : Int32) (sz : Nat) (X : XI ρ fv ws tys h0 lc bc rc fc dn tl) : Met l yX8_spill wsX8_spill ({ frames := 3, cells := 0, slots := 0, locals := 72 }) (va_Pc [.ref h0, .int a1, .int a2] (fun U => U.heap.size = sz ∧ va_P D vwCl ws U.heap ∧ va_K D vwCl tys U ∧ va_D (fun _ => True) ws)) (va_Qi (fun (r : Int32) (_ : Unit) => True) (fun (_ : Unit) (t : State) => ∃ (ws' : va_W) (tys' : List (ClassId × FieldType)), sm ρ [7] ws ws' ∧ tyx tys tys' ∧ va_P D vwCl ws' t.heap ∧ va_K D vwCl tys' t ∧ va_D (va_A ws sz) ws' ∧ (XI ρ fv ws' tys' h0 lc bc rc fc dn tl)) (va_A ws sz)) 0 0 (va_A ws sz) := by
  refine Met.ofW (cc := cX8_spill) (maxL := 4) (ret := (some .int)) (by decide) rfl ?_
  intro p e s m args below meth c s₁ B hml hv
  obtain ⟨rfl, hsz, hP, hK, hD0⟩ := hv
  have hx := B.exec
  have hb := B.bytes
  have hr := B.returns
  have hts := atoms_spec (ws := wsX8_spill) B.pre
  have hown : s.vm.findClass RX8 = some m.cls := findClass_of_methodNamed B.named
  have hlocks := B.notSynchronized
  subst hsz
  have hD := hD0.self (sz := s.heap.size)
  generalize hAe : va_A ws s.heap.size = A at hD ⊢
  have hA : ∀ q : Nat, s.heap.size ≤ q → A q := fun q h => by rw [← hAe]; exact Or.inr h
  have hS : va_S A s.heap s.heap [] := va_S.rf
  have hsm : sm ρ [7] ws ws := sm.rf ws
  have htx : tyx tys tys := tyx.rf tys
  have hin7 : ∀ w ∈ u_ws RX7 TX7 5, w ∈ wsX8_spill := (fun _ h9 => List.mem_cons_of_mem _ (List.mem_append_left _ (List.mem_append_left _ ((List.mem_append_right _ h9)))))
  have hin8 : ∀ w ∈ u_ws RX8 TX8 15, w ∈ wsX8_spill := (fun _ h9 => List.mem_cons_of_mem _ (List.mem_append_left _ ((List.mem_append_right _ h9))))
  have hl := lv_entry ([.ref h0, .int a1, .int a2]) (n := 4) (Nat.le_of_ble_eq_true rfl)
  rw [lg_entry_eq]
  generalize (lg_sl ([.ref h0, .int a1, .int a2]) ++ List.replicate (4 - (lg_sl ([.ref h0, .int a1, .int a2])).length) Slot.unset).toArray = ls at hl ⊢
  have hl : lv_has ls 4 [(0, .ref h0), (1, .int a1), (2, .int a2)] := hl
  obtain ⟨k0, la, ta, ba, ra, sn, rd, dr, bl, vd, fb, e0, w0, hle0, hnum, qla, qta, qba, qra, qsn, qrd, qdr, qbl, qvd, qfb⟩ := id X
  obtain ⟨kta, cta, tta, fta, eta, uta, pta⟩ := id qta
  obtain ⟨kdr, dg, dq, edr, ⟨kdg, cdg, tdg, fdg, edg, udg, wdg⟩, ⟨kdq, cdq, tdq, fdq, edq, udq, wdq⟩⟩ := id qdr
  refine lv_aload_n hx hb dX8_spill_0 rfl (lv_at hl 0 rfl) ?_
  refine lv_iload_n hx hb dX8_spill_1 rfl (lv_at hl 1 rfl) ?_
  refine va_csq (W.runV (As := [.int a1]) (rest := []) ⟨hx, hb, hml, hown, hts⟩ (s_X8_tankAt l D ws tys h0 k0 _ ta kta cta fta tta a1 e0 rfl eta uta) (cwV 1 hts gX8_spill_X8_tankAt rfl rfl rfl (by decide +kernel) ⟨Nat.le_of_ble_eq_true rfl, Nat.le_of_ble_eq_true rfl⟩) ⟨fun a U g mk q => ⟨q.1, q.2.1, va_K.moved (u := U) (U := U.calling g mk a) (Vm.Alike.refl U.vm) q.2.2⟩, va_recv hK hP (ci := 8) (q0 := k0) rfl e0, fun U hU hW => ⟨rfl, by rw [hU]; exact hP, va_K.moved hW.alike hK⟩⟩ rfl rfl hl.1 rfl (lv_room (Nat.le_of_ble_eq_true rfl)) dX8_spill_2 ⟨Nat.le_of_ble_eq_true rfl, Nat.le_of_ble_eq_true rfl⟩) (fun r_1 k_2 => ?_)
  have hz_5 : r_1 = none ∨ ∃ v, r_1 = some v ∧ oV ρ ws tys v := by
    rcases k_2 with ⟨q, -⟩ | ⟨-, -, q⟩
    · exact Or.inl q
    · rcases r_1 with _ | v
      · exact Or.inl rfl
      · exact Or.inr ⟨v, rfl, pta _ _ q.symm⟩
  rcases hz_5 with rfl | ⟨v_3, rfl, hv_4⟩
  · refine tp_v (y := .null) rfl ?_
    refine lv_astore_nN (lv' := [(3, .null), (0, .ref h0), (1, .int a1), (2, .int a2)]) hx hb dX8_spill_5 rfl hl (by decide) rfl (fun ls hl => ?_)
    refine lv_aload_nN hx hb dX8_spill_6 rfl (lv_at hl 0 rfl) ?_
    refine lv_ifnonnullN hx hb dX8_spill_7 ?_
    refine lv_iconst (v := (-1)) hx hb dX8_spill_10 (by decide) ?_
    exact W.iret (v := (-1)) hx hb hr (fun t ht hW => ⟨⟨(-1), (), rfl, trivial, ws, tys, hsm, htx, by rw [ht]; exact hP, va_K.moved hW.alike hK, hD, X.sm hsm htx (by decide) (by decide)⟩, hS.F ht⟩) hS.2.2 dX8_spill_11
  obtain ⟨k_7, g_8, x_9, x_10, x_11, x_12, e_13, w_20, k_14, c9_15, t_16, f_17, e_18, u_19, w_21⟩ := hv_4.sm hsm htx
  refine tp_v (y := .ref v_3) rfl ?_
  refine lv_astore_n (lv' := [(3, .ref v_3), (0, .ref h0), (1, .int a1), (2, .int a2)]) hx hb dX8_spill_5 rfl hl (by decide) rfl (fun ls hl => ?_)
  refine lv_aload_n hx hb dX8_spill_6 rfl (lv_at hl 0 rfl) ?_
  refine lv_ifnonnull (tgt := 12) hx hb dX8_spill_7 (by decide) ?_
  refine lv_iload_n hx hb dX8_spill_12 rfl (lv_at hl 3 rfl) ?_
  refine lv_iconst (v := 1) hx hb dX8_spill_13 (by decide) ?_
  refine lv_aload_n hx hb dX8_spill_14 rfl (lv_at hl 0 rfl) ?_
  refine va_get (D := D) (ci := 7) (v := .int x_9) (C := RX7) (T := TX7) (N := 5) hx hb hts hin7 hown hK hP k_7 e_13 rfl 1 (by decide) (hts (.fieldLink RX8 144 "HoneyHouse$Vessel" "total" "I") (List.mem_of_getElem? (i := 1) rfl)) (fun _ h9 => h9) rfl dX8_spill_15 ?_
  refine vp_callSi (W.runS (As := [.int a2, .int 1, .int x_9]) (rest := []) ⟨hx, hb, hml, hown, hts⟩ (s_X8_isIn l a2 1 x_9) (va_cwS 3 hts gX8_spill_X8_isIn rfl rfl rfl (by decide +kernel) ⟨Nat.le_of_ble_eq_true rfl, Nat.le_of_ble_eq_true rfl⟩) ⟨fun a U g mk q => q, fun U hU hW => ⟨rfl, trivial⟩⟩ rfl rfl hl.1 rfl (lv_room (Nat.le_of_ble_eq_true rfl)) dX8_spill_18 ⟨Nat.le_of_ble_eq_true rfl, Nat.le_of_ble_eq_true rfl⟩) (fun r_22 k_23 => ?_)
  rcases k_23 with ⟨rfl, -⟩ | ⟨rfl, -, -⟩
  · refine lv_if_ne (tgt := 27) hx hb dX8_spill_21 (by decide) (fun c_24 => absurd (by decide) c_24) (fun c_24 => ?_)
    refine lv_bipush (v := (-2)) hx hb dX8_spill_24 (by decide) ?_
    exact W.iret (v := (-2)) hx hb hr (fun t ht hW => ⟨⟨(-2), (), rfl, trivial, ws, tys, hsm, htx, by rw [ht]; exact hP, va_K.moved hW.alike hK, hD, X.sm hsm htx (by decide) (by decide)⟩, hS.F ht⟩) hS.2.2 dX8_spill_26
  refine lv_if_ne (tgt := 27) hx hb dX8_spill_21 (by decide) (fun c_25 => ?_) (fun c_25 => absurd c_25 (by decide))
  refine lv_aload_n hx hb dX8_spill_27 rfl (lv_at hl 1 rfl) ?_
  refine va_get (D := D) (ci := 8) (v := .ref dr) (C := RX8) (T := TX8) (N := 15) hx hb hts hin8 hown hK hP k0 e0 rfl 6 (by decide) (hts (.fieldLink RX8 47 "HoneyHouse" "draught" "LHoneyHouse$Draught;") (List.mem_of_getElem? (i := 2) rfl)) (fun _ h9 => h9) rfl dX8_spill_28 ?_
  refine lv_aload_n hx hb dX8_spill_31 rfl (lv_at hl 0 rfl) ?_
  refine lv_iload_n hx hb dX8_spill_32 rfl (lv_at hl 3 rfl) ?_
  have hFc := free_all hD hS hA
  refine va_callv (va_runV (As := [.ref v_3, .int a2]) (rest := []) ⟨hx, hb, hml, hown, hts⟩ (a_drawFrom l D ρ ws tys dr kdr dg kdg cdg tdg fdg dq kdq cdq tdq fdq v_3 k_7 x_9 x_10 x_11 x_12 g_8 k_14 c9_15 t_16 f_17 a2 s.heap.size edr edg udg edq udq e_13 e_18 u_19 wdg wdq w_20 w_21) (cwV 2 hts gX8_spill_X1_drawFrom rfl rfl rfl (by decide +kernel) ⟨Nat.le_of_ble_eq_true rfl, Nat.le_of_ble_eq_true rfl⟩) ⟨fun a U g mk q => by obtain ⟨q0, q1, qP, qK, qD⟩ := q; exact ⟨q0, q1, qP, va_K.moved (u := U) (U := U.calling g mk a) (Vm.Alike.refl U.vm) qK, qD⟩, va_recv hK hP (ci := 1) (q0 := kdr) rfl edr, fun U hU hW => ⟨rfl, by rw [hU], by rw [hU]; exact hP, va_K.moved hW.alike hK, hD.weaken (fun _ _ _ _ => trivial)⟩⟩ rfl rfl hl.1 rfl (lv_room (Nat.le_of_ble_eq_true rfl)) dX8_spill_33 ⟨Nat.le_of_ble_eq_true rfl, Nat.le_of_ble_eq_true rfl⟩) hS (fun q _ h => hFc q h) hFc (fun u t H1 locs ht hvm w_27 hB hz1 hk1 hS => ?_)
  obtain ⟨ws_28, ty_29, hm_30, ht_32, hP1, hK1, hD1, hx_31⟩ := hB
  rw [ht] at hP1
  have hK := va_K.moved hvm.symm hK1
  have hD := hD1.weaken (fun _ _ _ h => hFc _ h)
  generalize H1 = H at hP1 hS ⊢
  have hP := hP1
  have e_33 := hm_30.objK e0 (by decide)
  have e_34 := hm_30.arrQ eta
  have u_35 := ht_32 _ _ uta
  have e_36 := hm_30.objK edr (by decide)
  obtain ⟨f_38, e_37⟩ := hm_30.arrI edg
  have u_39 := ht_32 _ _ udg
  obtain ⟨f_41, e_40⟩ := hm_30.arrJ edq
  have u_42 := ht_32 _ _ udq
  obtain ⟨g_44, e_43, h_45⟩ := hm_30.obj e_13
  obtain ⟨z_46, z_47, z_48, z_49, rfl⟩ := smX7 h_45
  obtain ⟨f_51, e_50⟩ := hm_30.arrI e_18
  have u_52 := ht_32 _ _ u_19
  have hsm := hsm.tr (hm_30.mono (by decide))
  have htx := htx.tr ht_32
  refine lv_aload_n hx hb dX8_spill_36 rfl (lv_at hl 0 rfl) ?_
  refine va_get (D := D) (ci := 7) (v := .int z_46) (C := RX7) (T := TX7) (N := 5) hx hb hts hin7 hown hK hP k_7 e_43 rfl 1 (by decide) (hts (.fieldLink RX8 144 "HoneyHouse$Vessel" "total" "I") (List.mem_of_getElem? (i := 1) rfl)) (fun _ h9 => h9) rfl dX8_spill_37 ?_
  exact W.iret (v := z_46) hx hb hr (fun t ht hW => ⟨⟨z_46, (), rfl, trivial, ws_28, ty_29, hsm, htx, by rw [ht]; exact hP, va_K.moved hW.alike hK, hD, X.sm hsm htx (by decide) (by decide)⟩, hS.F ht⟩) hS.2.2 dX8_spill_40
set_option maxHeartbeats 4000000 in
set_option maxRecDepth 100000 in
theorem h_move (l : Launch) (D : va_G) (ρ : Nat → Nat) (ws : va_W) (tys : List (ClassId × FieldType)) (fv : Nat → Nat → Int32) (h0 lc bc rc fc : Nat) (dn : Int32) (tl : Nat) (a1 a2 a3 : Int32) (sz : Nat) (X : XI ρ fv ws tys h0 lc bc rc fc dn tl) : Met l yX8_move wsX8_move ({ frames := 3, cells := 0, slots := 0, locals := 72 }) (va_Pc [.ref h0, .int a1, .int a2, .int a3] (fun U => U.heap.size = sz ∧ va_P D vwCl ws U.heap ∧ va_K D vwCl tys U ∧ va_D (fun _ => True) ws)) (va_Qi (fun (r : Int32) (_ : Unit) => True) (fun (_ : Unit) (t : State) => ∃ (ws' : va_W) (tys' : List (ClassId × FieldType)), sm ρ [7] ws ws' ∧ tyx tys tys' ∧ va_P D vwCl ws' t.heap ∧ va_K D vwCl tys' t ∧ va_D (va_A ws sz) ws' ∧ (XI ρ fv ws' tys' h0 lc bc rc fc dn tl)) (va_A ws sz)) 0 0 (va_A ws sz) := by
  refine Met.ofW (cc := cX8_move) (maxL := 7) (ret := (some .int)) (by decide) rfl ?_
  intro p e s m args below meth c s₁ B hml hv
  obtain ⟨rfl, hsz, hP, hK, hD0⟩ := hv
  have hx := B.exec
  have hb := B.bytes
  have hr := B.returns
  have hts := atoms_spec (ws := wsX8_move) B.pre
  have hown : s.vm.findClass RX8 = some m.cls := findClass_of_methodNamed B.named
  have hlocks := B.notSynchronized
  subst hsz
  have hD := hD0.self (sz := s.heap.size)
  generalize hAe : va_A ws s.heap.size = A at hD ⊢
  have hA : ∀ q : Nat, s.heap.size ≤ q → A q := fun q h => by rw [← hAe]; exact Or.inr h
  have hS : va_S A s.heap s.heap [] := va_S.rf
  have hsm : sm ρ [7] ws ws := sm.rf ws
  have htx : tyx tys tys := tyx.rf tys
  have hin7 : ∀ w ∈ u_ws RX7 TX7 5, w ∈ wsX8_move := (fun _ h9 => List.mem_cons_of_mem _ (List.mem_append_left _ (List.mem_append_left _ ((List.mem_append_right _ h9)))))
  have hin8 : ∀ w ∈ u_ws RX8 TX8 15, w ∈ wsX8_move := (fun _ h9 => List.mem_cons_of_mem _ (List.mem_append_left _ ((List.mem_append_right _ h9))))
  have hl := lv_entry ([.ref h0, .int a1, .int a2, .int a3]) (n := 7) (Nat.le_of_ble_eq_true rfl)
  rw [lg_entry_eq]
  generalize (lg_sl ([.ref h0, .int a1, .int a2, .int a3]) ++ List.replicate (7 - (lg_sl ([.ref h0, .int a1, .int a2, .int a3])).length) Slot.unset).toArray = ls at hl ⊢
  have hl : lv_has ls 7 [(0, .ref h0), (1, .int a1), (2, .int a2), (3, .int a3)] := hl
  obtain ⟨k0, la, ta, ba, ra, sn, rd, dr, bl, vd, fb, e0, w0, hle0, hnum, qla, qta, qba, qra, qsn, qrd, qdr, qbl, qvd, qfb⟩ := id X
  obtain ⟨kta, cta, tta, fta, eta, uta, pta⟩ := id qta
  obtain ⟨kdr, dg, dq, edr, ⟨kdg, cdg, tdg, fdg, edg, udg, wdg⟩, ⟨kdq, cdq, tdq, fdq, edq, udq, wdq⟩⟩ := id qdr
  refine lv_aload_n hx hb dX8_move_0 rfl (lv_at hl 0 rfl) ?_
  refine lv_iload_n hx hb dX8_move_1 rfl (lv_at hl 1 rfl) ?_
  refine va_csq (W.runV (As := [.int a1]) (rest := []) ⟨hx, hb, hml, hown, hts⟩ (s_X8_tankAt l D ws tys h0 k0 _ ta kta cta fta tta a1 e0 rfl eta uta) (cwV 1 hts gX8_move_X8_tankAt rfl rfl rfl (by decide +kernel) ⟨Nat.le_of_ble_eq_true rfl, Nat.le_of_ble_eq_true rfl⟩) ⟨fun a U g mk q => ⟨q.1, q.2.1, va_K.moved (u := U) (U := U.calling g mk a) (Vm.Alike.refl U.vm) q.2.2⟩, va_recv hK hP (ci := 8) (q0 := k0) rfl e0, fun U hU hW => ⟨rfl, by rw [hU]; exact hP, va_K.moved hW.alike hK⟩⟩ rfl rfl hl.1 rfl (lv_room (Nat.le_of_ble_eq_true rfl)) dX8_move_2 ⟨Nat.le_of_ble_eq_true rfl, Nat.le_of_ble_eq_true rfl⟩) (fun r_1 k_2 => ?_)
  have hz_5 : r_1 = none ∨ ∃ v, r_1 = some v ∧ oV ρ ws tys v := by
    rcases k_2 with ⟨q, -⟩ | ⟨-, -, q⟩
    · exact Or.inl q
    · rcases r_1 with _ | v
      · exact Or.inl rfl
      · exact Or.inr ⟨v, rfl, pta _ _ q.symm⟩
  rcases hz_5 with rfl | ⟨v_3, rfl, hv_4⟩
  · refine tp_v (y := .null) rfl ?_
    refine lv_astoreN (lv' := [(4, .null), (0, .ref h0), (1, .int a1), (2, .int a2), (3, .int a3)]) hx hb dX8_move_5 hl (by decide) rfl (fun ls hl => ?_)
    refine lv_aload_n hx hb dX8_move_7 rfl (lv_at hl 1 rfl) ?_
    refine lv_iload_n hx hb dX8_move_8 rfl (lv_at hl 3 rfl) ?_
    refine va_csq (W.runV (As := [.int a2]) (rest := []) ⟨hx, hb, hml, hown, hts⟩ (s_X8_tankAt l D ws tys h0 k0 _ ta kta cta fta tta a2 e0 rfl eta uta) (cwV 1 hts gX8_move_X8_tankAt rfl rfl rfl (by decide +kernel) ⟨Nat.le_of_ble_eq_true rfl, Nat.le_of_ble_eq_true rfl⟩) ⟨fun a U g mk q => ⟨q.1, q.2.1, va_K.moved (u := U) (U := U.calling g mk a) (Vm.Alike.refl U.vm) q.2.2⟩, va_recv hK hP (ci := 8) (q0 := k0) rfl e0, fun U hU hW => ⟨rfl, by rw [hU]; exact hP, va_K.moved hW.alike hK⟩⟩ rfl rfl hl.1 rfl (lv_room (Nat.le_of_ble_eq_true rfl)) dX8_move_9 ⟨Nat.le_of_ble_eq_true rfl, Nat.le_of_ble_eq_true rfl⟩) (fun r_22 k_23 => ?_)
    have hz_26 : r_22 = none ∨ ∃ v, r_22 = some v ∧ oV ρ ws tys v := by
      rcases k_23 with ⟨q, -⟩ | ⟨-, -, q⟩
      · exact Or.inl q
      · rcases r_22 with _ | v
        · exact Or.inl rfl
        · exact Or.inr ⟨v, rfl, pta _ _ q.symm⟩
    rcases hz_26 with rfl | ⟨v_24, rfl, hv_25⟩
    · refine tp_v (y := .null) rfl ?_
      refine lv_astoreN (lv' := [(5, .null), (4, .null), (0, .ref h0), (1, .int a1), (2, .int a2), (3, .int a3)]) hx hb dX8_move_12 hl (by decide) rfl (fun ls hl => ?_)
      refine lv_aloadN hx hb dX8_move_14 (lv_at hl 1 rfl) ?_
      refine lv_ifnullN (tgt := 29) hx hb dX8_move_16 (by decide) ?_
      refine lv_iconst (v := (-1)) hx hb dX8_move_29 (by decide) ?_
      exact W.iret (v := (-1)) hx hb hr (fun t ht hW => ⟨⟨(-1), (), rfl, trivial, ws, tys, hsm, htx, by rw [ht]; exact hP, va_K.moved hW.alike hK, hD, X.sm hsm htx (by decide) (by decide)⟩, hS.F ht⟩) hS.2.2 dX8_move_30
    obtain ⟨k_28, g_29, x_30, x_31, x_32, x_33, e_34, w_41, k_35, c9_36, t_37, f_38, e_39, u_40, w_42⟩ := hv_25.sm hsm htx
    refine tp_v (y := .ref v_24) rfl ?_
    refine lv_astore (lv' := [(5, .ref v_24), (4, .null), (0, .ref h0), (1, .int a1), (2, .int a2), (3, .int a3)]) hx hb dX8_move_12 hl (by decide) rfl (fun ls hl => ?_)
    refine lv_aloadN hx hb dX8_move_14 (lv_at hl 1 rfl) ?_
    refine lv_ifnullN (tgt := 29) hx hb dX8_move_16 (by decide) ?_
    refine lv_iconst (v := (-1)) hx hb dX8_move_29 (by decide) ?_
    exact W.iret (v := (-1)) hx hb hr (fun t ht hW => ⟨⟨(-1), (), rfl, trivial, ws, tys, hsm, htx, by rw [ht]; exact hP, va_K.moved hW.alike hK, hD, X.sm hsm htx (by decide) (by decide)⟩, hS.F ht⟩) hS.2.2 dX8_move_30
  obtain ⟨k_7, g_8, x_9, x_10, x_11, x_12, e_13, w_20, k_14, c9_15, t_16, f_17, e_18, u_19, w_21⟩ := hv_4.sm hsm htx
  refine tp_v (y := .ref v_3) rfl ?_
  refine lv_astore (lv' := [(4, .ref v_3), (0, .ref h0), (1, .int a1), (2, .int a2), (3, .int a3)]) hx hb dX8_move_5 hl (by decide) rfl (fun ls hl => ?_)
  refine lv_aload_n hx hb dX8_move_7 rfl (lv_at hl 1 rfl) ?_
  refine lv_iload_n hx hb dX8_move_8 rfl (lv_at hl 3 rfl) ?_
  refine va_csq (W.runV (As := [.int a2]) (rest := []) ⟨hx, hb, hml, hown, hts⟩ (s_X8_tankAt l D ws tys h0 k0 _ ta kta cta fta tta a2 e0 rfl eta uta) (cwV 1 hts gX8_move_X8_tankAt rfl rfl rfl (by decide +kernel) ⟨Nat.le_of_ble_eq_true rfl, Nat.le_of_ble_eq_true rfl⟩) ⟨fun a U g mk q => ⟨q.1, q.2.1, va_K.moved (u := U) (U := U.calling g mk a) (Vm.Alike.refl U.vm) q.2.2⟩, va_recv hK hP (ci := 8) (q0 := k0) rfl e0, fun U hU hW => ⟨rfl, by rw [hU]; exact hP, va_K.moved hW.alike hK⟩⟩ rfl rfl hl.1 rfl (lv_room (Nat.le_of_ble_eq_true rfl)) dX8_move_9 ⟨Nat.le_of_ble_eq_true rfl, Nat.le_of_ble_eq_true rfl⟩) (fun r_43 k_44 => ?_)
  have hz_47 : r_43 = none ∨ ∃ v, r_43 = some v ∧ oV ρ ws tys v := by
    rcases k_44 with ⟨q, -⟩ | ⟨-, -, q⟩
    · exact Or.inl q
    · rcases r_43 with _ | v
      · exact Or.inl rfl
      · exact Or.inr ⟨v, rfl, pta _ _ q.symm⟩
  rcases hz_47 with rfl | ⟨v_45, rfl, hv_46⟩
  · refine tp_v (y := .null) rfl ?_
    refine lv_astoreN (lv' := [(5, .null), (4, .ref v_3), (0, .ref h0), (1, .int a1), (2, .int a2), (3, .int a3)]) hx hb dX8_move_12 hl (by decide) rfl (fun ls hl => ?_)
    refine lv_aload hx hb dX8_move_14 (lv_at hl 1 rfl) ?_
    refine lv_ifnull hx hb dX8_move_16 ?_
    refine lv_aloadN hx hb dX8_move_19 (lv_at hl 0 rfl) ?_
    refine lv_ifnullN (tgt := 29) hx hb dX8_move_21 (by decide) ?_
    refine lv_iconst (v := (-1)) hx hb dX8_move_29 (by decide) ?_
    exact W.iret (v := (-1)) hx hb hr (fun t ht hW => ⟨⟨(-1), (), rfl, trivial, ws, tys, hsm, htx, by rw [ht]; exact hP, va_K.moved hW.alike hK, hD, X.sm hsm htx (by decide) (by decide)⟩, hS.F ht⟩) hS.2.2 dX8_move_30
  obtain ⟨k_49, g_50, x_51, x_52, x_53, x_54, e_55, w_62, k_56, c9_57, t_58, f_59, e_60, u_61, w_63⟩ := hv_46.sm hsm htx
  refine tp_v (y := .ref v_45) rfl ?_
  refine lv_astore (lv' := [(5, .ref v_45), (4, .ref v_3), (0, .ref h0), (1, .int a1), (2, .int a2), (3, .int a3)]) hx hb dX8_move_12 hl (by decide) rfl (fun ls hl => ?_)
  refine lv_aload hx hb dX8_move_14 (lv_at hl 1 rfl) ?_
  refine lv_ifnull hx hb dX8_move_16 ?_
  refine lv_aload hx hb dX8_move_19 (lv_at hl 0 rfl) ?_
  refine lv_ifnull hx hb dX8_move_21 ?_
  refine lv_iload_n hx hb dX8_move_24 rfl (lv_at hl 3 rfl) ?_
  refine lv_iload_n hx hb dX8_move_25 rfl (lv_at hl 4 rfl) ?_
  refine lv_icmp_ne (tgt := 31) hx hb dX8_move_26 (by decide) (fun c_64 => ?_) (fun c_64 => ?_)
  · refine lv_iload_n hx hb dX8_move_31 rfl (lv_at hl 5 rfl) ?_
    refine lv_iconst (v := 1) hx hb dX8_move_32 (by decide) ?_
    refine lv_aload hx hb dX8_move_33 (lv_at hl 1 rfl) ?_
    refine va_get (D := D) (ci := 7) (v := .int x_9) (C := RX7) (T := TX7) (N := 5) hx hb hts hin7 hown hK hP k_7 e_13 rfl 1 (by decide) (hts (.fieldLink RX8 144 "HoneyHouse$Vessel" "total" "I") (List.mem_of_getElem? (i := 1) rfl)) (fun _ h9 => h9) rfl dX8_move_35 ?_
    refine vp_callSi (W.runS (As := [.int a3, .int 1, .int x_9]) (rest := []) ⟨hx, hb, hml, hown, hts⟩ (s_X8_isIn l a3 1 x_9) (va_cwS 3 hts gX8_move_X8_isIn rfl rfl rfl (by decide +kernel) ⟨Nat.le_of_ble_eq_true rfl, Nat.le_of_ble_eq_true rfl⟩) ⟨fun a U g mk q => q, fun U hU hW => ⟨rfl, trivial⟩⟩ rfl rfl hl.1 rfl (lv_room (Nat.le_of_ble_eq_true rfl)) dX8_move_38 ⟨Nat.le_of_ble_eq_true rfl, Nat.le_of_ble_eq_true rfl⟩) (fun r_65 k_66 => ?_)
    rcases k_66 with ⟨rfl, -⟩ | ⟨rfl, -, -⟩
    · refine lv_if_eq (tgt := 53) hx hb dX8_move_41 (by decide) (fun c_67 => ?_) (fun c_67 => absurd (by decide) c_67)
      refine lv_bipush (v := (-2)) hx hb dX8_move_53 (by decide) ?_
      exact W.iret (v := (-2)) hx hb hr (fun t ht hW => ⟨⟨(-2), (), rfl, trivial, ws, tys, hsm, htx, by rw [ht]; exact hP, va_K.moved hW.alike hK, hD, X.sm hsm htx (by decide) (by decide)⟩, hS.F ht⟩) hS.2.2 dX8_move_55
    refine lv_if_eq (tgt := 53) hx hb dX8_move_41 (by decide) (fun c_68 => absurd c_68 (by decide)) (fun c_68 => ?_)
    refine lv_aload hx hb dX8_move_44 (lv_at hl 0 rfl) ?_
    refine lv_iload_n hx hb dX8_move_46 rfl (lv_at hl 5 rfl) ?_
    refine vp_callSi (W.runV (As := [.int a3]) (rest := []) ⟨hx, hb, hml, hown, hts⟩ (s_hasRoomFor l D ws tys v_45 k_49 x_51 x_52 x_53 x_54 g_50 k_56 c9_57 t_58 f_59 a3 e_55 e_60 u_61) (cwV 1 hts gX8_move_X7_hasRoomFor rfl rfl rfl (by decide +kernel) ⟨Nat.le_of_ble_eq_true rfl, Nat.le_of_ble_eq_true rfl⟩) ⟨fun a U g mk q => ⟨q.1, q.2.1, va_K.moved (u := U) (U := U.calling g mk a) (Vm.Alike.refl U.vm) q.2.2⟩, va_recv hK hP (ci := 7) (q0 := k_49) rfl e_55, fun U hU hW => ⟨rfl, by rw [hU]; exact hP, va_K.moved hW.alike hK⟩⟩ rfl rfl hl.1 rfl (lv_room (Nat.le_of_ble_eq_true rfl)) dX8_move_47 ⟨Nat.le_of_ble_eq_true rfl, Nat.le_of_ble_eq_true rfl⟩) (fun r_69 k_70 => ?_)
    rcases k_70 with rfl | rfl
    · refine lv_if_ne (tgt := 56) hx hb dX8_move_50 (by decide) (fun c_71 => absurd (by decide) c_71) (fun c_71 => ?_)
      refine lv_bipush (v := (-2)) hx hb dX8_move_53 (by decide) ?_
      exact W.iret (v := (-2)) hx hb hr (fun t ht hW => ⟨⟨(-2), (), rfl, trivial, ws, tys, hsm, htx, by rw [ht]; exact hP, va_K.moved hW.alike hK, hD, X.sm hsm htx (by decide) (by decide)⟩, hS.F ht⟩) hS.2.2 dX8_move_55
    refine lv_if_ne (tgt := 56) hx hb dX8_move_50 (by decide) (fun c_72 => ?_) (fun c_72 => absurd c_72 (by decide))
    refine lv_aload hx hb dX8_move_56 (lv_at hl 1 rfl) ?_
    refine va_get (D := D) (ci := 7) (v := .int x_10) (C := RX7) (T := TX7) (N := 5) hx hb hts hin7 hown hK hP k_7 e_13 rfl 2 (by decide) (hts (.fieldLink RX8 160 "HoneyHouse$Vessel" "heat" "I") (List.mem_of_getElem? (i := 2) rfl)) (fun _ h9 => h9) rfl dX8_move_58 ?_
    refine lv_istore (lv' := [(6, .int x_10), (5, .ref v_45), (4, .ref v_3), (0, .ref h0), (1, .int a1), (2, .int a2), (3, .int a3)]) hx hb dX8_move_61 hl (by decide) rfl (fun ls hl => ?_)
    refine lv_aload_n hx hb dX8_move_63 rfl (lv_at hl 3 rfl) ?_
    refine va_get (D := D) (ci := 8) (v := .ref dr) (C := RX8) (T := TX8) (N := 15) hx hb hts hin8 hown hK hP k0 e0 rfl 6 (by decide) (hts (.fieldLink RX8 47 "HoneyHouse" "draught" "LHoneyHouse$Draught;") (List.mem_of_getElem? (i := 3) rfl)) (fun _ h9 => h9) rfl dX8_move_64 ?_
    refine lv_aload hx hb dX8_move_67 (lv_at hl 2 rfl) ?_
    refine lv_iload_n hx hb dX8_move_69 rfl (lv_at hl 6 rfl) ?_
    have hFc := free_all hD hS hA
    refine va_callv (va_runV (As := [.ref v_3, .int a3]) (rest := []) ⟨hx, hb, hml, hown, hts⟩ (a_drawFrom l D ρ ws tys dr kdr dg kdg cdg tdg fdg dq kdq cdq tdq fdq v_3 k_7 x_9 x_10 x_11 x_12 g_8 k_14 c9_15 t_16 f_17 a3 s.heap.size edr edg udg edq udq e_13 e_18 u_19 wdg wdq w_20 w_21) (cwV 2 hts gX8_move_X1_drawFrom rfl rfl rfl (by decide +kernel) ⟨Nat.le_of_ble_eq_true rfl, Nat.le_of_ble_eq_true rfl⟩) ⟨fun a U g mk q => by obtain ⟨q0, q1, qP, qK, qD⟩ := q; exact ⟨q0, q1, qP, va_K.moved (u := U) (U := U.calling g mk a) (Vm.Alike.refl U.vm) qK, qD⟩, va_recv hK hP (ci := 1) (q0 := kdr) rfl edr, fun U hU hW => ⟨rfl, by rw [hU], by rw [hU]; exact hP, va_K.moved hW.alike hK, hD.weaken (fun _ _ _ _ => trivial)⟩⟩ rfl rfl hl.1 rfl (lv_room (Nat.le_of_ble_eq_true rfl)) dX8_move_70 ⟨Nat.le_of_ble_eq_true rfl, Nat.le_of_ble_eq_true rfl⟩) hS (fun q _ h => hFc q h) hFc (fun u t H1 locs ht hvm w_74 hB hz1 hk1 hS => ?_)
    obtain ⟨ws_75, ty_76, hm_77, ht_79, hP1, hK1, hD1, hx_78⟩ := hB
    rw [ht] at hP1
    have hK := va_K.moved hvm.symm hK1
    have hD := hD1.weaken (fun _ _ _ h => hFc _ h)
    generalize H1 = H at hP1 hS ⊢
    have hP := hP1
    have e_80 := hm_77.objK e0 (by decide)
    have e_81 := hm_77.arrQ eta
    have u_82 := ht_79 _ _ uta
    have e_83 := hm_77.objK edr (by decide)
    obtain ⟨f_85, e_84⟩ := hm_77.arrI edg
    have u_86 := ht_79 _ _ udg
    obtain ⟨f_88, e_87⟩ := hm_77.arrJ edq
    have u_89 := ht_79 _ _ udq
    obtain ⟨g_91, e_90, h_92⟩ := hm_77.obj e_13
    obtain ⟨z_93, z_94, z_95, z_96, rfl⟩ := smX7 h_92
    obtain ⟨f_98, e_97⟩ := hm_77.arrI e_18
    have u_99 := ht_79 _ _ u_19
    obtain ⟨g_101, e_100, h_102⟩ := hm_77.obj e_55
    obtain ⟨z_103, z_104, z_105, z_106, rfl⟩ := smX7 h_102
    obtain ⟨f_108, e_107⟩ := hm_77.arrI e_60
    have u_109 := ht_79 _ _ u_61
    have hsm := hsm.tr (hm_77.mono (by decide))
    have htx := htx.tr ht_79
    refine lv_aload_n hx hb dX8_move_73 rfl (lv_at hl 3 rfl) ?_
    refine va_get (D := D) (ci := 8) (v := .ref dr) (C := RX8) (T := TX8) (N := 15) hx hb hts hin8 hown hK hP k0 e_80 rfl 6 (by decide) (hts (.fieldLink RX8 47 "HoneyHouse" "draught" "LHoneyHouse$Draught;") (List.mem_of_getElem? (i := 3) rfl)) (fun _ h9 => h9) rfl dX8_move_74 ?_
    refine lv_aload hx hb dX8_move_77 (lv_at hl 1 rfl) ?_
    refine lv_iload hx hb dX8_move_79 (lv_at hl 0 rfl) ?_
    have hFc := free_all hD hS hA
    refine va_callv (va_runV (As := [.ref v_45, .int x_10]) (rest := []) ⟨hx, hb, hml, hown, hts⟩ (a_fillInto l D ρ ws_75 ty_76 dr kdr dg kdg cdg tdg f_85 dq kdq cdq tdq f_88 v_45 k_49 z_103 z_104 z_105 z_106 g_50 k_56 c9_57 t_58 f_108 x_10 H.size e_83 e_84 u_86 e_87 u_89 e_100 e_107 u_109 w_62 w_63) (cwV 2 hts gX8_move_X1_fillInto rfl rfl rfl (by decide +kernel) ⟨Nat.le_of_ble_eq_true rfl, Nat.le_of_ble_eq_true rfl⟩) ⟨fun a U g mk q => by obtain ⟨q0, q1, qP, qK, qD⟩ := q; exact ⟨q0, q1, qP, va_K.moved (u := U) (U := U.calling g mk a) (Vm.Alike.refl U.vm) qK, qD⟩, va_recv hK hP (ci := 1) (q0 := kdr) rfl e_83, fun U hU hW => ⟨rfl, by rw [hU], by rw [hU]; exact hP, va_K.moved hW.alike hK, hD.weaken (fun _ _ _ _ => trivial)⟩⟩ rfl rfl hl.1 rfl (lv_room (Nat.le_of_ble_eq_true rfl)) dX8_move_81 ⟨Nat.le_of_ble_eq_true rfl, Nat.le_of_ble_eq_true rfl⟩) hS (fun q _ h => hFc q h) hFc (fun u t H1 locs ht hvm w_111 hB hz1 hk1 hS => ?_)
    obtain ⟨ws_112, ty_113, hm_114, ht_116, hP1, hK1, hD1, hx_115⟩ := hB
    rw [ht] at hP1
    have hK := va_K.moved hvm.symm hK1
    have hD := hD1.weaken (fun _ _ _ h => hFc _ h)
    generalize H1 = H at hP1 hS ⊢
    have hP := hP1
    have e_117 := hm_114.objK e_80 (by decide)
    have e_118 := hm_114.arrQ e_81
    have u_119 := ht_116 _ _ u_82
    have e_120 := hm_114.objK e_83 (by decide)
    obtain ⟨f_122, e_121⟩ := hm_114.arrI e_84
    have u_123 := ht_116 _ _ u_86
    obtain ⟨f_125, e_124⟩ := hm_114.arrJ e_87
    have u_126 := ht_116 _ _ u_89
    obtain ⟨g_128, e_127, h_129⟩ := hm_114.obj e_90
    obtain ⟨z_130, z_131, z_132, z_133, rfl⟩ := smX7 h_129
    obtain ⟨f_135, e_134⟩ := hm_114.arrI e_97
    have u_136 := ht_116 _ _ u_99
    obtain ⟨g_138, e_137, h_139⟩ := hm_114.obj e_100
    obtain ⟨z_140, z_141, z_142, z_143, rfl⟩ := smX7 h_139
    obtain ⟨f_145, e_144⟩ := hm_114.arrI e_107
    have u_146 := ht_116 _ _ u_109
    have hsm := hsm.tr (hm_114.mono (by decide))
    have htx := htx.tr ht_116
    refine lv_aload hx hb dX8_move_84 (lv_at hl 2 rfl) ?_
    refine va_get (D := D) (ci := 7) (v := .int z_130) (C := RX7) (T := TX7) (N := 5) hx hb hts hin7 hown hK hP k_7 e_127 rfl 1 (by decide) (hts (.fieldLink RX8 144 "HoneyHouse$Vessel" "total" "I") (List.mem_of_getElem? (i := 1) rfl)) (fun _ h9 => h9) rfl dX8_move_86 ?_
    exact W.iret (v := z_130) hx hb hr (fun t ht hW => ⟨⟨z_130, (), rfl, trivial, ws_112, ty_113, hsm, htx, by rw [ht]; exact hP, va_K.moved hW.alike hK, hD, X.sm hsm htx (by decide) (by decide)⟩, hS.F ht⟩) hS.2.2 dX8_move_89
  refine lv_iconst (v := (-1)) hx hb dX8_move_29 (by decide) ?_
  exact W.iret (v := (-1)) hx hb hr (fun t ht hW => ⟨⟨(-1), (), rfl, trivial, ws, tys, hsm, htx, by rw [ht]; exact hP, va_K.moved hW.alike hK, hD, X.sm hsm htx (by decide) (by decide)⟩, hS.F ht⟩) hS.2.2 dX8_move_30
