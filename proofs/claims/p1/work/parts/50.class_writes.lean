theorem dX6_append_0 : decode cX6_append 0 = .ok (.bipush 24, 2) := by decide +kernel
theorem dX6_append_2 : decode cX6_append 2 = .ok (.istore_n 2, 1) := by decide +kernel
theorem dX6_append_3 : decode cX6_append 3 = .ok (.iload_n 2, 1) := by decide +kernel
theorem dX6_append_4 : decode cX6_append 4 = .ok (.ifCond .lt 54, 3) := by decide +kernel
theorem dX6_append_7 : decode cX6_append 7 = .ok (.aload_n 0, 1) := by decide +kernel
theorem dX6_append_8 : decode cX6_append 8 = .ok (.getfield 15, 3) := by decide +kernel
theorem dX6_append_11 : decode cX6_append 11 = .ok (.ifCond .lt 41, 3) := by decide +kernel
theorem dX6_append_14 : decode cX6_append 14 = .ok (.aload_n 0, 1) := by decide +kernel
theorem dX6_append_15 : decode cX6_append 15 = .ok (.getfield 15, 3) := by decide +kernel
theorem dX6_append_18 : decode cX6_append 18 = .ok (.aload_n 0, 1) := by decide +kernel
theorem dX6_append_19 : decode cX6_append 19 = .ok (.getfield 9, 3) := by decide +kernel
theorem dX6_append_22 : decode cX6_append 22 = .ok (.arraylength, 1) := by decide +kernel
theorem dX6_append_23 : decode cX6_append 23 = .ok (.if_icmp .ge 29, 3) := by decide +kernel
theorem dX6_append_26 : decode cX6_append 26 = .ok (.aload_n 0, 1) := by decide +kernel
theorem dX6_append_27 : decode cX6_append 27 = .ok (.getfield 9, 3) := by decide +kernel
theorem dX6_append_30 : decode cX6_append 30 = .ok (.aload_n 0, 1) := by decide +kernel
theorem dX6_append_31 : decode cX6_append 31 = .ok (.getfield 15, 3) := by decide +kernel
theorem dX6_append_34 : decode cX6_append 34 = .ok (.iload_n 1, 1) := by decide +kernel
theorem dX6_append_35 : decode cX6_append 35 = .ok (.iload_n 2, 1) := by decide +kernel
theorem dX6_append_36 : decode cX6_append 36 = .ok (.ishr, 1) := by decide +kernel
theorem dX6_append_37 : decode cX6_append 37 = .ok (.sipush 255, 3) := by decide +kernel
theorem dX6_append_40 : decode cX6_append 40 = .ok (.iand, 1) := by decide +kernel
theorem dX6_append_41 : decode cX6_append 41 = .ok (.iastore, 1) := by decide +kernel
theorem dX6_append_42 : decode cX6_append 42 = .ok (.aload_n 0, 1) := by decide +kernel
theorem dX6_append_43 : decode cX6_append 43 = .ok (.dup, 1) := by decide +kernel
theorem dX6_append_44 : decode cX6_append 44 = .ok (.getfield 15, 3) := by decide +kernel
theorem dX6_append_47 : decode cX6_append 47 = .ok (.iconst 1, 1) := by decide +kernel
theorem dX6_append_48 : decode cX6_append 48 = .ok (.iadd, 1) := by decide +kernel
theorem dX6_append_49 : decode cX6_append 49 = .ok (.putfield 15, 3) := by decide +kernel
theorem dX6_append_52 : decode cX6_append 52 = .ok (.iinc 2 (-8), 3) := by decide +kernel
theorem dX6_append_55 : decode cX6_append 55 = .ok (.goto (-52), 3) := by decide +kernel
theorem dX6_append_58 : decode cX6_append 58 = .ok (.return_, 1) := by decide +kernel
theorem dX8_feed_0 : decode cX8_feed 0 = .ok (.aload_n 0, 1) := by decide +kernel
theorem dX8_feed_1 : decode cX8_feed 1 = .ok (.getfield 40, 3) := by decide +kernel
theorem dX8_feed_4 : decode cX8_feed 4 = .ok (.getfield 68, 3) := by decide +kernel
theorem dX8_feed_7 : decode cX8_feed 7 = .ok (.astore 6, 2) := by decide +kernel
theorem dX8_feed_9 : decode cX8_feed 9 = .ok (.aload 6, 2) := by decide +kernel
theorem dX8_feed_11 : decode cX8_feed 11 = .ok (.getfield 72, 3) := by decide +kernel
theorem dX8_feed_14 : decode cX8_feed 14 = .ok (.sipush 380, 3) := by decide +kernel
theorem dX8_feed_17 : decode cX8_feed 17 = .ok (.if_icmp .le 5, 3) := by decide +kernel
theorem dX8_feed_22 : decode cX8_feed 22 = .ok (.aload 6, 2) := by decide +kernel
theorem dX8_feed_24 : decode cX8_feed 24 = .ok (.iload_n 1, 1) := by decide +kernel
theorem dX8_feed_25 : decode cX8_feed 25 = .ok (.invokevirtual 78, 3) := by decide +kernel
theorem dX8_feed_28 : decode cX8_feed 28 = .ok (.aload 6, 2) := by decide +kernel
theorem dX8_feed_30 : decode cX8_feed 30 = .ok (.iload_n 2, 1) := by decide +kernel
theorem dX8_feed_31 : decode cX8_feed 31 = .ok (.invokevirtual 78, 3) := by decide +kernel
theorem dX8_feed_34 : decode cX8_feed 34 = .ok (.aload 6, 2) := by decide +kernel
theorem dX8_feed_36 : decode cX8_feed 36 = .ok (.iload_n 3, 1) := by decide +kernel
theorem dX8_feed_37 : decode cX8_feed 37 = .ok (.invokevirtual 78, 3) := by decide +kernel
theorem dX8_feed_40 : decode cX8_feed 40 = .ok (.aload 6, 2) := by decide +kernel
theorem dX8_feed_42 : decode cX8_feed 42 = .ok (.iload 4, 2) := by decide +kernel
theorem dX8_feed_44 : decode cX8_feed 44 = .ok (.invokevirtual 78, 3) := by decide +kernel
theorem dX8_feed_47 : decode cX8_feed 47 = .ok (.aload 6, 2) := by decide +kernel
theorem dX8_feed_49 : decode cX8_feed 49 = .ok (.iload 5, 2) := by decide +kernel
theorem dX8_feed_51 : decode cX8_feed 51 = .ok (.invokevirtual 78, 3) := by decide +kernel
theorem dX8_feed_54 : decode cX8_feed 54 = .ok (.aload 6, 2) := by decide +kernel
theorem dX8_feed_56 : decode cX8_feed 56 = .ok (.getfield 72, 3) := by decide +kernel
theorem dX8_feed_59 : decode cX8_feed 59 = .ok (.ireturn, 1) := by decide +kernel
theorem dX8_end_0 : decode cX8_end 0 = .ok (.iload_n 1, 1) := by decide +kernel
theorem dX8_end_1 : decode cX8_end 1 = .ok (.ifCond .lt 17, 3) := by decide +kernel
theorem dX8_end_4 : decode cX8_end 4 = .ok (.iload_n 1, 1) := by decide +kernel
theorem dX8_end_5 : decode cX8_end 5 = .ok (.aload_n 0, 1) := by decide +kernel
theorem dX8_end_6 : decode cX8_end 6 = .ok (.getfield 40, 3) := by decide +kernel
theorem dX8_end_9 : decode cX8_end 9 = .ok (.getfield 68, 3) := by decide +kernel
theorem dX8_end_12 : decode cX8_end 12 = .ok (.getfield 72, 3) := by decide +kernel
theorem dX8_end_15 : decode cX8_end 15 = .ok (.if_icmp .le 5, 3) := by decide +kernel
theorem dX8_end_18 : decode cX8_end 18 = .ok (.iconst 0, 1) := by decide +kernel
theorem dX8_end_19 : decode cX8_end 19 = .ok (.ireturn, 1) := by decide +kernel
theorem dX8_end_20 : decode cX8_end 20 = .ok (.aload_n 0, 1) := by decide +kernel
theorem dX8_end_21 : decode cX8_end 21 = .ok (.getfield 40, 3) := by decide +kernel
theorem dX8_end_24 : decode cX8_end 24 = .ok (.getfield 68, 3) := by decide +kernel
theorem dX8_end_27 : decode cX8_end 27 = .ok (.iload_n 1, 1) := by decide +kernel
theorem dX8_end_28 : decode cX8_end 28 = .ok (.putfield 72, 3) := by decide +kernel
theorem dX8_end_31 : decode cX8_end 31 = .ok (.iconst 1, 1) := by decide +kernel
theorem dX8_end_32 : decode cX8_end 32 = .ok (.ireturn, 1) := by decide +kernel
theorem dX8_today_0 : decode cX8_today 0 = .ok (.iload_n 1, 1) := by decide +kernel
theorem dX8_today_1 : decode cX8_today 1 = .ok (.aload_n 0, 1) := by decide +kernel
theorem dX8_today_2 : decode cX8_today 2 = .ok (.getfield 82, 3) := by decide +kernel
theorem dX8_today_5 : decode cX8_today 5 = .ok (.if_icmp .lt 10, 3) := by decide +kernel
theorem dX8_today_8 : decode cX8_today 8 = .ok (.iload_n 1, 1) := by decide +kernel
theorem dX8_today_9 : decode cX8_today 9 = .ok (.sipush 30000, 3) := by decide +kernel
theorem dX8_today_12 : decode cX8_today 12 = .ok (.if_icmp .le 5, 3) := by decide +kernel
theorem dX8_today_15 : decode cX8_today 15 = .ok (.iconst 0, 1) := by decide +kernel
theorem dX8_today_16 : decode cX8_today 16 = .ok (.ireturn, 1) := by decide +kernel
theorem dX8_today_17 : decode cX8_today 17 = .ok (.aload_n 0, 1) := by decide +kernel
theorem dX8_today_18 : decode cX8_today 18 = .ok (.iload_n 1, 1) := by decide +kernel
theorem dX8_today_19 : decode cX8_today 19 = .ok (.putfield 82, 3) := by decide +kernel
theorem dX8_today_22 : decode cX8_today 22 = .ok (.iconst 1, 1) := by decide +kernel
theorem dX8_today_23 : decode cX8_today 23 = .ok (.ireturn, 1) := by decide +kernel
theorem dX8_tank_0 : decode cX8_tank 0 = .ok (.aload_n 0, 1) := by decide +kernel
theorem dX8_tank_1 : decode cX8_tank 1 = .ok (.iload_n 1, 1) := by decide +kernel
theorem dX8_tank_2 : decode cX8_tank 2 = .ok (.invokevirtual 139, 3) := by decide +kernel
theorem dX8_tank_5 : decode cX8_tank 5 = .ok (.astore 4, 2) := by decide +kernel
theorem dX8_tank_7 : decode cX8_tank 7 = .ok (.aload 4, 2) := by decide +kernel
theorem dX8_tank_9 : decode cX8_tank 9 = .ok (.ifnull 24, 3) := by decide +kernel
theorem dX8_tank_12 : decode cX8_tank 12 = .ok (.iload_n 2, 1) := by decide +kernel
theorem dX8_tank_13 : decode cX8_tank 13 = .ok (.iconst 0, 1) := by decide +kernel
theorem dX8_tank_14 : decode cX8_tank 14 = .ok (.ldc 143, 2) := by decide +kernel
theorem dX8_tank_16 : decode cX8_tank 16 = .ok (.invokestatic 85, 3) := by decide +kernel
theorem dX8_tank_19 : decode cX8_tank 19 = .ok (.ifCond .eq 14, 3) := by decide +kernel
theorem dX8_tank_22 : decode cX8_tank 22 = .ok (.iload_n 3, 1) := by decide +kernel
theorem dX8_tank_23 : decode cX8_tank 23 = .ok (.iconst 0, 1) := by decide +kernel
theorem dX8_tank_24 : decode cX8_tank 24 = .ok (.sipush 10000, 3) := by decide +kernel
theorem dX8_tank_27 : decode cX8_tank 27 = .ok (.invokestatic 85, 3) := by decide +kernel
theorem dX8_tank_30 : decode cX8_tank 30 = .ok (.ifCond .ne 5, 3) := by decide +kernel
theorem dX8_tank_33 : decode cX8_tank 33 = .ok (.iconst 0, 1) := by decide +kernel
theorem dX8_tank_34 : decode cX8_tank 34 = .ok (.ireturn, 1) := by decide +kernel
theorem dX8_tank_35 : decode cX8_tank 35 = .ok (.aload 4, 2) := by decide +kernel
theorem dX8_tank_37 : decode cX8_tank 37 = .ok (.getfield 144, 3) := by decide +kernel
theorem dX8_tank_40 : decode cX8_tank 40 = .ok (.iload_n 2, 1) := by decide +kernel
theorem dX8_tank_41 : decode cX8_tank 41 = .ok (.if_icmp .le 5, 3) := by decide +kernel
theorem dX8_tank_46 : decode cX8_tank 46 = .ok (.aload 4, 2) := by decide +kernel
theorem dX8_tank_48 : decode cX8_tank 48 = .ok (.iload_n 2, 1) := by decide +kernel
theorem dX8_tank_49 : decode cX8_tank 49 = .ok (.putfield 147, 3) := by decide +kernel
theorem dX8_tank_52 : decode cX8_tank 52 = .ok (.aload 4, 2) := by decide +kernel
theorem dX8_tank_54 : decode cX8_tank 54 = .ok (.iload_n 3, 1) := by decide +kernel
theorem dX8_tank_55 : decode cX8_tank 55 = .ok (.putfield 150, 3) := by decide +kernel
theorem dX8_tank_58 : decode cX8_tank 58 = .ok (.iconst 1, 1) := by decide +kernel
theorem dX8_tank_59 : decode cX8_tank 59 = .ok (.ireturn, 1) := by decide +kernel
theorem dX8_step_0 : decode cX8_step 0 = .ok (.iload_n 1, 1) := by decide +kernel
theorem dX8_step_1 : decode cX8_step 1 = .ok (.iconst 0, 1) := by decide +kernel
theorem dX8_step_2 : decode cX8_step 2 = .ok (.iconst 3, 1) := by decide +kernel
theorem dX8_step_3 : decode cX8_step 3 = .ok (.invokestatic 85, 3) := by decide +kernel
theorem dX8_step_6 : decode cX8_step 6 = .ok (.ifCond .eq 24, 3) := by decide +kernel
theorem dX8_step_9 : decode cX8_step 9 = .ok (.iload_n 2, 1) := by decide +kernel
theorem dX8_step_10 : decode cX8_step 10 = .ok (.iconst 0, 1) := by decide +kernel
theorem dX8_step_11 : decode cX8_step 11 = .ok (.sipush 300, 3) := by decide +kernel
theorem dX8_step_14 : decode cX8_step 14 = .ok (.invokestatic 85, 3) := by decide +kernel
theorem dX8_step_17 : decode cX8_step 17 = .ok (.ifCond .eq 13, 3) := by decide +kernel
theorem dX8_step_20 : decode cX8_step 20 = .ok (.iload_n 3, 1) := by decide +kernel
theorem dX8_step_21 : decode cX8_step 21 = .ok (.iconst 0, 1) := by decide +kernel
theorem dX8_step_22 : decode cX8_step 22 = .ok (.ldc 239, 2) := by decide +kernel
theorem dX8_step_24 : decode cX8_step 24 = .ok (.invokestatic 85, 3) := by decide +kernel
theorem dX8_step_27 : decode cX8_step 27 = .ok (.ifCond .ne 5, 3) := by decide +kernel
theorem dX8_step_30 : decode cX8_step 30 = .ok (.iconst 0, 1) := by decide +kernel
theorem dX8_step_31 : decode cX8_step 31 = .ok (.ireturn, 1) := by decide +kernel
theorem dX8_step_32 : decode cX8_step 32 = .ok (.aload_n 0, 1) := by decide +kernel
theorem dX8_step_33 : decode cX8_step 33 = .ok (.getfield 33, 3) := by decide +kernel
theorem dX8_step_36 : decode cX8_step 36 = .ok (.getfield 240, 3) := by decide +kernel
theorem dX8_step_39 : decode cX8_step 39 = .ok (.iload_n 1, 1) := by decide +kernel
theorem dX8_step_40 : decode cX8_step 40 = .ok (.iload_n 2, 1) := by decide +kernel
theorem dX8_step_41 : decode cX8_step 41 = .ok (.iastore, 1) := by decide +kernel
theorem dX8_step_42 : decode cX8_step 42 = .ok (.aload_n 0, 1) := by decide +kernel
theorem dX8_step_43 : decode cX8_step 43 = .ok (.getfield 33, 3) := by decide +kernel
theorem dX8_step_46 : decode cX8_step 46 = .ok (.getfield 243, 3) := by decide +kernel
theorem dX8_step_49 : decode cX8_step 49 = .ok (.iload_n 1, 1) := by decide +kernel
theorem dX8_step_50 : decode cX8_step 50 = .ok (.iload_n 3, 1) := by decide +kernel
theorem dX8_step_51 : decode cX8_step 51 = .ok (.iastore, 1) := by decide +kernel
theorem dX8_step_52 : decode cX8_step 52 = .ok (.iconst 1, 1) := by decide +kernel
theorem dX8_step_53 : decode cX8_step 53 = .ok (.ireturn, 1) := by decide +kernel
set_option maxRecDepth 20000 in
theorem ggX8_feed_X6_append : GoodIn wsX8_feed wsX6_append := goodIn_r _ [8, 9, 10, 34, 35, 36, 37, 38] (by decide +kernel) (by decide +kernel)
set_option maxRecDepth 20000 in
theorem gX8_feed_X6_append : GoodIn wsX8_feed (wsV RX8 78 RX6 yX6_append wsX6_append) := goodIn_app (goodIn_of _ (by decide +kernel)) ggX8_feed_X6_append
set_option maxRecDepth 20000 in
theorem ggX8_tank_X8_tankAt : GoodIn wsX8_tank wsX8_tankAt := goodIn_r _ [9, 10, 11, 12, 8, 13, 19, 20, 21, 22, 23, 24, 25, 26, 27, 28, 29, 30, 31, 32, 33] (by decide +kernel) (by decide +kernel)
set_option maxRecDepth 20000 in
theorem gX8_tank_X8_tankAt : GoodIn wsX8_tank (wsV RX8 139 RX8 yX8_tankAt wsX8_tankAt) := goodIn_app (goodIn_of _ (by decide +kernel)) ggX8_tank_X8_tankAt
set_option maxRecDepth 20000 in
theorem ggX8_tank_X8_isIn : GoodIn wsX8_tank wsX8_isIn := goodIn_r _ [13] (by decide +kernel) (by decide +kernel)
set_option maxRecDepth 20000 in
theorem gX8_tank_X8_isIn : GoodIn wsX8_tank (va_wsS RX8 85 yX8_isIn wsX8_isIn) := goodIn_app (goodIn_of _ (by decide +kernel)) ggX8_tank_X8_isIn
set_option maxRecDepth 20000 in
theorem ggX8_step_X8_isIn : GoodIn wsX8_step wsX8_isIn := goodIn_r _ [8] (by decide +kernel) (by decide +kernel)
set_option maxRecDepth 20000 in
theorem gX8_step_X8_isIn : GoodIn wsX8_step (va_wsS RX8 85 yX8_isIn wsX8_isIn) := goodIn_app (goodIn_of _ (by decide +kernel)) ggX8_step_X8_isIn
theorem i_le_n {a b : Int32} (h : a ≤ b) : ¬ b < a := by rw [i_le] at h; rw [i_lt]; omega
set_option maxHeartbeats 4000000 in
set_option maxRecDepth 100000 in
theorem q_X6_append (l : Launch) (D : va_G) (h0 bb : Nat) (cb : ClassId) (n : Nat) (tk ts te : Int32) (f : Nat → Int32) (a1 : Int32) (sz : Nat) (hn : n + 4 ≤ 400) : Met l yX6_append wsX6_append ({ frames := 0, cells := 0, slots := 0, locals := 0 }) (va_Pc [.ref h0, .int a1] (fun U => U.heap.size = sz ∧ va_P D vwCl [(h0, .inr (6, [.int (nI n), .int tk, .int ts, .int te, .ref bb])), (bb, .inl (cb, 400, .inl f))] U.heap ∧ va_K D vwCl [(cb, .int)] U ∧ va_D (fun _ => True) [(h0, .inr (6, [.int (nI n), .int tk, .int ts, .int te, .ref bb])), (bb, .inl (cb, 400, .inl f))])) (va_Qv (fun _ : Unit => True) (fun (_ : Unit) (t : State) => ∃ (f1 : Nat → Int32), va_P D vwCl [(h0, .inr (6, [.int (nI (n + 4)), .int tk, .int ts, .int te, .ref bb])), (bb, .inl (cb, 400, .inl f1))] t.heap ∧ va_K D vwCl [(cb, .int)] t ∧ va_D (va_A [(h0, .inr (6, [.int (nI n), .int tk, .int ts, .int te, .ref bb])), (bb, .inl (cb, 400, .inl f))] sz) [(h0, .inr (6, [.int (nI (n + 4)), .int tk, .int ts, .int te, .ref bb])), (bb, .inl (cb, 400, .inl f1))]) (va_A [(h0, .inr (6, [.int (nI n), .int tk, .int ts, .int te, .ref bb])), (bb, .inl (cb, 400, .inl f))] sz)) 0 0 (va_A [(h0, .inr (6, [.int (nI n), .int tk, .int ts, .int te, .ref bb])), (bb, .inl (cb, 400, .inl f))] sz) := by
  refine Met.ofW (cc := cX6_append) (maxL := 3) (ret := none) (by decide) rfl ?_
  intro p e s m args below meth c s₁ B hml hv
  obtain ⟨rfl, hsz, hP, hK, hD0⟩ := hv
  have hx := B.exec
  have hb := B.bytes
  have hr := B.returns
  have hts := atoms_spec (ws := wsX6_append) B.pre
  have hown : s.vm.findClass RX6 = some m.cls := findClass_of_methodNamed B.named
  have hlocks := B.notSynchronized
  subst hsz
  have hD := hD0.self (sz := s.heap.size)
  generalize hAe : va_A [(h0, .inr (6, [.int (nI n), .int tk, .int ts, .int te, .ref bb])), (bb, .inl (cb, 400, .inl f))] s.heap.size = A at hD ⊢
  have hA : ∀ q : Nat, s.heap.size ≤ q → A q := fun q h => by rw [← hAe]; exact Or.inr h
  have hS : va_S A s.heap s.heap [] := va_S.rf
  have hP : va_P D vwCl [(h0, .inr (6, [.int (nI n), .int tk, .int ts, .int te, .ref bb])), (bb, .inl (cb, 400, .inl f))] s.heap := hP
  have hin6 : ∀ w ∈ u_ws RX6 TX6 5, w ∈ wsX6_append := (fun _ h9 => List.mem_cons_of_mem _ ((List.mem_append_right _ h9)))
  have hl := lv_entry ([.ref h0, .int a1]) (n := 3) (Nat.le_of_ble_eq_true rfl)
  rw [lg_entry_eq]
  generalize (lg_sl ([.ref h0, .int a1]) ++ List.replicate (3 - (lg_sl ([.ref h0, .int a1])).length) Slot.unset).toArray = ls at hl ⊢
  have hl : lv_has ls 3 [(0, .ref h0), (1, .int a1)] := hl
  refine lv_bipush (v := 24) hx hb dX6_append_0 (by decide) ?_
  refine lv_istore_n (lv' := [(2, .int 24), (0, .ref h0), (1, .int a1)]) hx hb dX6_append_2 rfl hl (by decide) rfl (fun ls hl => ?_)
  refine lv_iload_n hx hb dX6_append_3 rfl (lv_at hl 0 rfl) ?_
  refine lv_if_lt (tgt := 58) hx hb dX6_append_4 (by decide) (fun c_1 => absurd c_1 (by decide)) (fun c_1 => ?_)
  refine lv_aload_n hx hb dX6_append_7 rfl (lv_at hl 1 rfl) ?_
  refine va_get (D := D) (ci := 6) (v := .int (nI n)) (C := RX6) (T := TX6) (N := 5) hx hb hts hin6 hown hK hP 0 rfl rfl 0 (by decide) (hts (.fieldLink RX6 15 "HoneyHouse$Tape" "length" "I") (List.mem_of_getElem? (i := 1) rfl)) (fun _ h9 => h9) rfl dX6_append_8 ?_
  refine lv_if_lt (tgt := 52) hx hb dX6_append_11 (by decide) (fun c_2 => absurd c_2 (nI_pos (by omega))) (fun c_2 => ?_)
  refine lv_aload_n hx hb dX6_append_14 rfl (lv_at hl 1 rfl) ?_
  refine va_get (D := D) (ci := 6) (v := .int (nI n)) (C := RX6) (T := TX6) (N := 5) hx hb hts hin6 hown hK hP 0 rfl rfl 0 (by decide) (hts (.fieldLink RX6 15 "HoneyHouse$Tape" "length" "I") (List.mem_of_getElem? (i := 1) rfl)) (fun _ h9 => h9) rfl dX6_append_15 ?_
  refine lv_aload_n hx hb dX6_append_18 rfl (lv_at hl 1 rfl) ?_
  refine va_get (D := D) (ci := 6) (v := .ref bb) (C := RX6) (T := TX6) (N := 5) hx hb hts hin6 hown hK hP 0 rfl rfl 4 (by decide) (hts (.fieldLink RX6 9 "HoneyHouse$Tape" "bytes" "[I") (List.mem_of_getElem? (i := 2) rfl)) (fun _ h9 => h9) rfl dX6_append_19 ?_
  refine va_alen (v := 400) hx hb hK hP 1 0 rfl rfl rfl dX6_append_22 ?_
  refine lv_icmp_ge (tgt := 52) hx hb dX6_append_23 (by decide) (fun c_3 => absurd c_3 (show ¬ (400 : Int32) ≤ nI n from nI_ge (a := n) (b := 400) (by omega) (by omega))) (fun c_3 => ?_)
  refine lv_aload_n hx hb dX6_append_26 rfl (lv_at hl 1 rfl) ?_
  refine va_get (D := D) (ci := 6) (v := .ref bb) (C := RX6) (T := TX6) (N := 5) hx hb hts hin6 hown hK hP 0 rfl rfl 4 (by decide) (hts (.fieldLink RX6 9 "HoneyHouse$Tape" "bytes" "[I") (List.mem_of_getElem? (i := 2) rfl)) (fun _ h9 => h9) rfl dX6_append_27 ?_
  refine lv_aload_n hx hb dX6_append_30 rfl (lv_at hl 1 rfl) ?_
  refine va_get (D := D) (ci := 6) (v := .int (nI n)) (C := RX6) (T := TX6) (N := 5) hx hb hts hin6 hown hK hP 0 rfl rfl 0 (by decide) (hts (.fieldLink RX6 15 "HoneyHouse$Tape" "length" "I") (List.mem_of_getElem? (i := 1) rfl)) (fun _ h9 => h9) rfl dX6_append_31 ?_
  refine lv_iload_n hx hb dX6_append_34 rfl (lv_at hl 2 rfl) ?_
  refine lv_iload_n hx hb dX6_append_35 rfl (lv_at hl 0 rfl) ?_
  refine lv_ishr hx hb dX6_append_36 ?_
  refine lv_sipush (v := 255) hx hb dX6_append_37 (by decide) ?_
  refine lv_iand hx hb dX6_append_40 ?_
  refine va_iast (f := f) (n := 400) hx hb hK hP hD hS 1 0 rfl rfl (vp_in_nI (by omega) (by omega)) dX6_append_41 (fun H locs hP hD hS => ?_)
  have hP : va_P D vwCl [(h0, .inr (6, [.int (nI n), .int tk, .int ts, .int te, .ref bb])), (bb, .inl (cb, 400, .inl (upd f (nI n).toNatClampNeg ((a1 >>> (24 &&& 31)) &&& 255))))] H := hP
  have hD : va_D A [(h0, .inr (6, [.int (nI n), .int tk, .int ts, .int te, .ref bb])), (bb, .inl (cb, 400, .inl (upd f (nI n).toNatClampNeg ((a1 >>> (24 &&& 31)) &&& 255))))] := hD
  generalize upd f (nI n).toNatClampNeg ((a1 >>> (24 &&& 31)) &&& 255) = f_4 at hP hD
  have hP : va_P D vwCl [(h0, .inr (6, [.int (nI n), .int tk, .int ts, .int te, .ref bb])), (bb, .inl (cb, 400, .inl f_4))] H := hP
  have hD : va_D A [(h0, .inr (6, [.int (nI n), .int tk, .int ts, .int te, .ref bb])), (bb, .inl (cb, 400, .inl f_4))] := hD
  refine lv_aload_n hx hb dX6_append_42 rfl (lv_at hl 1 rfl) ?_
  refine lv_dup hx hb dX6_append_43 rfl ?_
  refine va_get (D := D) (ci := 6) (v := .int (nI n)) (C := RX6) (T := TX6) (N := 5) hx hb hts hin6 hown hK hP 0 rfl rfl 0 (by decide) (hts (.fieldLink RX6 15 "HoneyHouse$Tape" "length" "I") (List.mem_of_getElem? (i := 1) rfl)) (fun _ h9 => h9) rfl dX6_append_44 ?_
  refine lv_iconst (v := 1) hx hb dX6_append_47 (by decide) ?_
  refine lv_iadd hx hb dX6_append_48 ?_
  refine tp_i (y := nI (n + 1)) (nI_1 _) ?_
  refine va_put (D := D) (ci := 6) (v := .int (nI (n + 1))) (ty := .int) (C := RX6) (T := TX6) (N := 5) hx hb hts hin6 tyX6 tyX6_ok nmX6 hown hK hP hD hS 0 rfl rfl 0 (by decide) (hts (.fieldLink RX6 15 "HoneyHouse$Tape" "length" "I") (List.mem_of_getElem? (i := 1) rfl)) (fun _ h9 => h9) rfl (tyX6_ok 0 (by decide)) rfl rfl (Nat.le_of_ble_eq_true rfl) dX6_append_49 (fun H locs hP hD hS => ?_)
  have hP : va_P D vwCl [(h0, .inr (6, [.int (nI (n + 1)), .int tk, .int ts, .int te, .ref bb])), (bb, .inl (cb, 400, .inl f_4))] H := hP
  have hD : va_D A [(h0, .inr (6, [.int (nI (n + 1)), .int tk, .int ts, .int te, .ref bb])), (bb, .inl (cb, 400, .inl f_4))] := hD
  refine lv_iinc (v := 16) (lv' := [(2, .int 16), (0, .ref h0), (1, .int a1)]) hx hb dX6_append_52 hl (k := 0) rfl (by decide) (by decide) rfl (fun ls hl => ?_)
  refine lv_goto (tgt := 3) hx hb dX6_append_55 (by decide) ?_
  refine lv_iload_n hx hb dX6_append_3 rfl (lv_at hl 0 rfl) ?_
  refine lv_if_lt (tgt := 58) hx hb dX6_append_4 (by decide) (fun c_5 => absurd c_5 (by decide)) (fun c_5 => ?_)
  refine lv_aload_n hx hb dX6_append_7 rfl (lv_at hl 1 rfl) ?_
  refine va_get (D := D) (ci := 6) (v := .int (nI (n + 1))) (C := RX6) (T := TX6) (N := 5) hx hb hts hin6 hown hK hP 0 rfl rfl 0 (by decide) (hts (.fieldLink RX6 15 "HoneyHouse$Tape" "length" "I") (List.mem_of_getElem? (i := 1) rfl)) (fun _ h9 => h9) rfl dX6_append_8 ?_
  refine lv_if_lt (tgt := 52) hx hb dX6_append_11 (by decide) (fun c_6 => absurd c_6 (nI_pos (by omega))) (fun c_6 => ?_)
  refine lv_aload_n hx hb dX6_append_14 rfl (lv_at hl 1 rfl) ?_
  refine va_get (D := D) (ci := 6) (v := .int (nI (n + 1))) (C := RX6) (T := TX6) (N := 5) hx hb hts hin6 hown hK hP 0 rfl rfl 0 (by decide) (hts (.fieldLink RX6 15 "HoneyHouse$Tape" "length" "I") (List.mem_of_getElem? (i := 1) rfl)) (fun _ h9 => h9) rfl dX6_append_15 ?_
  refine lv_aload_n hx hb dX6_append_18 rfl (lv_at hl 1 rfl) ?_
  refine va_get (D := D) (ci := 6) (v := .ref bb) (C := RX6) (T := TX6) (N := 5) hx hb hts hin6 hown hK hP 0 rfl rfl 4 (by decide) (hts (.fieldLink RX6 9 "HoneyHouse$Tape" "bytes" "[I") (List.mem_of_getElem? (i := 2) rfl)) (fun _ h9 => h9) rfl dX6_append_19 ?_
  refine va_alen (v := 400) hx hb hK hP 1 0 rfl rfl rfl dX6_append_22 ?_
  refine lv_icmp_ge (tgt := 52) hx hb dX6_append_23 (by decide) (fun c_7 => absurd c_7 (show ¬ (400 : Int32) ≤ nI (n + 1) from nI_ge (a := (n + 1)) (b := 400) (by omega) (by omega))) (fun c_7 => ?_)
  refine lv_aload_n hx hb dX6_append_26 rfl (lv_at hl 1 rfl) ?_
  refine va_get (D := D) (ci := 6) (v := .ref bb) (C := RX6) (T := TX6) (N := 5) hx hb hts hin6 hown hK hP 0 rfl rfl 4 (by decide) (hts (.fieldLink RX6 9 "HoneyHouse$Tape" "bytes" "[I") (List.mem_of_getElem? (i := 2) rfl)) (fun _ h9 => h9) rfl dX6_append_27 ?_
  refine lv_aload_n hx hb dX6_append_30 rfl (lv_at hl 1 rfl) ?_
  refine va_get (D := D) (ci := 6) (v := .int (nI (n + 1))) (C := RX6) (T := TX6) (N := 5) hx hb hts hin6 hown hK hP 0 rfl rfl 0 (by decide) (hts (.fieldLink RX6 15 "HoneyHouse$Tape" "length" "I") (List.mem_of_getElem? (i := 1) rfl)) (fun _ h9 => h9) rfl dX6_append_31 ?_
  refine lv_iload_n hx hb dX6_append_34 rfl (lv_at hl 2 rfl) ?_
  refine lv_iload_n hx hb dX6_append_35 rfl (lv_at hl 0 rfl) ?_
  refine lv_ishr hx hb dX6_append_36 ?_
  refine lv_sipush (v := 255) hx hb dX6_append_37 (by decide) ?_
  refine lv_iand hx hb dX6_append_40 ?_
  refine va_iast (f := f_4) (n := 400) hx hb hK hP hD hS 1 0 rfl rfl (vp_in_nI (by omega) (by omega)) dX6_append_41 (fun H locs hP hD hS => ?_)
  have hP : va_P D vwCl [(h0, .inr (6, [.int (nI (n + 1)), .int tk, .int ts, .int te, .ref bb])), (bb, .inl (cb, 400, .inl (upd f_4 (nI (n + 1)).toNatClampNeg ((a1 >>> (16 &&& 31)) &&& 255))))] H := hP
  have hD : va_D A [(h0, .inr (6, [.int (nI (n + 1)), .int tk, .int ts, .int te, .ref bb])), (bb, .inl (cb, 400, .inl (upd f_4 (nI (n + 1)).toNatClampNeg ((a1 >>> (16 &&& 31)) &&& 255))))] := hD
  generalize upd f_4 (nI (n + 1)).toNatClampNeg ((a1 >>> (16 &&& 31)) &&& 255) = f_8 at hP hD
  have hP : va_P D vwCl [(h0, .inr (6, [.int (nI (n + 1)), .int tk, .int ts, .int te, .ref bb])), (bb, .inl (cb, 400, .inl f_8))] H := hP
  have hD : va_D A [(h0, .inr (6, [.int (nI (n + 1)), .int tk, .int ts, .int te, .ref bb])), (bb, .inl (cb, 400, .inl f_8))] := hD
  refine lv_aload_n hx hb dX6_append_42 rfl (lv_at hl 1 rfl) ?_
  refine lv_dup hx hb dX6_append_43 rfl ?_
  refine va_get (D := D) (ci := 6) (v := .int (nI (n + 1))) (C := RX6) (T := TX6) (N := 5) hx hb hts hin6 hown hK hP 0 rfl rfl 0 (by decide) (hts (.fieldLink RX6 15 "HoneyHouse$Tape" "length" "I") (List.mem_of_getElem? (i := 1) rfl)) (fun _ h9 => h9) rfl dX6_append_44 ?_
  refine lv_iconst (v := 1) hx hb dX6_append_47 (by decide) ?_
  refine lv_iadd hx hb dX6_append_48 ?_
  refine tp_i (y := nI (n + 1 + 1)) (nI_1 _) ?_
  refine va_put (D := D) (ci := 6) (v := .int (nI (n + 1 + 1))) (ty := .int) (C := RX6) (T := TX6) (N := 5) hx hb hts hin6 tyX6 tyX6_ok nmX6 hown hK hP hD hS 0 rfl rfl 0 (by decide) (hts (.fieldLink RX6 15 "HoneyHouse$Tape" "length" "I") (List.mem_of_getElem? (i := 1) rfl)) (fun _ h9 => h9) rfl (tyX6_ok 0 (by decide)) rfl rfl (Nat.le_of_ble_eq_true rfl) dX6_append_49 (fun H locs hP hD hS => ?_)
  have hP : va_P D vwCl [(h0, .inr (6, [.int (nI (n + 1 + 1)), .int tk, .int ts, .int te, .ref bb])), (bb, .inl (cb, 400, .inl f_8))] H := hP
  have hD : va_D A [(h0, .inr (6, [.int (nI (n + 1 + 1)), .int tk, .int ts, .int te, .ref bb])), (bb, .inl (cb, 400, .inl f_8))] := hD
  refine lv_iinc (v := 8) (lv' := [(2, .int 8), (0, .ref h0), (1, .int a1)]) hx hb dX6_append_52 hl (k := 0) rfl (by decide) (by decide) rfl (fun ls hl => ?_)
  refine lv_goto (tgt := 3) hx hb dX6_append_55 (by decide) ?_
  refine lv_iload_n hx hb dX6_append_3 rfl (lv_at hl 0 rfl) ?_
  refine lv_if_lt (tgt := 58) hx hb dX6_append_4 (by decide) (fun c_9 => absurd c_9 (by decide)) (fun c_9 => ?_)
  refine lv_aload_n hx hb dX6_append_7 rfl (lv_at hl 1 rfl) ?_
  refine va_get (D := D) (ci := 6) (v := .int (nI (n + 1 + 1))) (C := RX6) (T := TX6) (N := 5) hx hb hts hin6 hown hK hP 0 rfl rfl 0 (by decide) (hts (.fieldLink RX6 15 "HoneyHouse$Tape" "length" "I") (List.mem_of_getElem? (i := 1) rfl)) (fun _ h9 => h9) rfl dX6_append_8 ?_
  refine lv_if_lt (tgt := 52) hx hb dX6_append_11 (by decide) (fun c_10 => absurd c_10 (nI_pos (by omega))) (fun c_10 => ?_)
  refine lv_aload_n hx hb dX6_append_14 rfl (lv_at hl 1 rfl) ?_
  refine va_get (D := D) (ci := 6) (v := .int (nI (n + 1 + 1))) (C := RX6) (T := TX6) (N := 5) hx hb hts hin6 hown hK hP 0 rfl rfl 0 (by decide) (hts (.fieldLink RX6 15 "HoneyHouse$Tape" "length" "I") (List.mem_of_getElem? (i := 1) rfl)) (fun _ h9 => h9) rfl dX6_append_15 ?_
  refine lv_aload_n hx hb dX6_append_18 rfl (lv_at hl 1 rfl) ?_
  refine va_get (D := D) (ci := 6) (v := .ref bb) (C := RX6) (T := TX6) (N := 5) hx hb hts hin6 hown hK hP 0 rfl rfl 4 (by decide) (hts (.fieldLink RX6 9 "HoneyHouse$Tape" "bytes" "[I") (List.mem_of_getElem? (i := 2) rfl)) (fun _ h9 => h9) rfl dX6_append_19 ?_
  refine va_alen (v := 400) hx hb hK hP 1 0 rfl rfl rfl dX6_append_22 ?_
  refine lv_icmp_ge (tgt := 52) hx hb dX6_append_23 (by decide) (fun c_11 => absurd c_11 (show ¬ (400 : Int32) ≤ nI (n + 1 + 1) from nI_ge (a := (n + 1 + 1)) (b := 400) (by omega) (by omega))) (fun c_11 => ?_)
  refine lv_aload_n hx hb dX6_append_26 rfl (lv_at hl 1 rfl) ?_
  refine va_get (D := D) (ci := 6) (v := .ref bb) (C := RX6) (T := TX6) (N := 5) hx hb hts hin6 hown hK hP 0 rfl rfl 4 (by decide) (hts (.fieldLink RX6 9 "HoneyHouse$Tape" "bytes" "[I") (List.mem_of_getElem? (i := 2) rfl)) (fun _ h9 => h9) rfl dX6_append_27 ?_
  refine lv_aload_n hx hb dX6_append_30 rfl (lv_at hl 1 rfl) ?_
  refine va_get (D := D) (ci := 6) (v := .int (nI (n + 1 + 1))) (C := RX6) (T := TX6) (N := 5) hx hb hts hin6 hown hK hP 0 rfl rfl 0 (by decide) (hts (.fieldLink RX6 15 "HoneyHouse$Tape" "length" "I") (List.mem_of_getElem? (i := 1) rfl)) (fun _ h9 => h9) rfl dX6_append_31 ?_
  refine lv_iload_n hx hb dX6_append_34 rfl (lv_at hl 2 rfl) ?_
  refine lv_iload_n hx hb dX6_append_35 rfl (lv_at hl 0 rfl) ?_
  refine lv_ishr hx hb dX6_append_36 ?_
  refine lv_sipush (v := 255) hx hb dX6_append_37 (by decide) ?_
  refine lv_iand hx hb dX6_append_40 ?_
  refine va_iast (f := f_8) (n := 400) hx hb hK hP hD hS 1 0 rfl rfl (vp_in_nI (by omega) (by omega)) dX6_append_41 (fun H locs hP hD hS => ?_)
  have hP : va_P D vwCl [(h0, .inr (6, [.int (nI (n + 1 + 1)), .int tk, .int ts, .int te, .ref bb])), (bb, .inl (cb, 400, .inl (upd f_8 (nI (n + 1 + 1)).toNatClampNeg ((a1 >>> (8 &&& 31)) &&& 255))))] H := hP
  have hD : va_D A [(h0, .inr (6, [.int (nI (n + 1 + 1)), .int tk, .int ts, .int te, .ref bb])), (bb, .inl (cb, 400, .inl (upd f_8 (nI (n + 1 + 1)).toNatClampNeg ((a1 >>> (8 &&& 31)) &&& 255))))] := hD
  generalize upd f_8 (nI (n + 1 + 1)).toNatClampNeg ((a1 >>> (8 &&& 31)) &&& 255) = f_12 at hP hD
  have hP : va_P D vwCl [(h0, .inr (6, [.int (nI (n + 1 + 1)), .int tk, .int ts, .int te, .ref bb])), (bb, .inl (cb, 400, .inl f_12))] H := hP
  have hD : va_D A [(h0, .inr (6, [.int (nI (n + 1 + 1)), .int tk, .int ts, .int te, .ref bb])), (bb, .inl (cb, 400, .inl f_12))] := hD
  refine lv_aload_n hx hb dX6_append_42 rfl (lv_at hl 1 rfl) ?_
  refine lv_dup hx hb dX6_append_43 rfl ?_
  refine va_get (D := D) (ci := 6) (v := .int (nI (n + 1 + 1))) (C := RX6) (T := TX6) (N := 5) hx hb hts hin6 hown hK hP 0 rfl rfl 0 (by decide) (hts (.fieldLink RX6 15 "HoneyHouse$Tape" "length" "I") (List.mem_of_getElem? (i := 1) rfl)) (fun _ h9 => h9) rfl dX6_append_44 ?_
  refine lv_iconst (v := 1) hx hb dX6_append_47 (by decide) ?_
  refine lv_iadd hx hb dX6_append_48 ?_
  refine tp_i (y := nI (n + 1 + 1 + 1)) (nI_1 _) ?_
  refine va_put (D := D) (ci := 6) (v := .int (nI (n + 1 + 1 + 1))) (ty := .int) (C := RX6) (T := TX6) (N := 5) hx hb hts hin6 tyX6 tyX6_ok nmX6 hown hK hP hD hS 0 rfl rfl 0 (by decide) (hts (.fieldLink RX6 15 "HoneyHouse$Tape" "length" "I") (List.mem_of_getElem? (i := 1) rfl)) (fun _ h9 => h9) rfl (tyX6_ok 0 (by decide)) rfl rfl (Nat.le_of_ble_eq_true rfl) dX6_append_49 (fun H locs hP hD hS => ?_)
  have hP : va_P D vwCl [(h0, .inr (6, [.int (nI (n + 1 + 1 + 1)), .int tk, .int ts, .int te, .ref bb])), (bb, .inl (cb, 400, .inl f_12))] H := hP
  have hD : va_D A [(h0, .inr (6, [.int (nI (n + 1 + 1 + 1)), .int tk, .int ts, .int te, .ref bb])), (bb, .inl (cb, 400, .inl f_12))] := hD
  refine lv_iinc (v := 0) (lv' := [(2, .int 0), (0, .ref h0), (1, .int a1)]) hx hb dX6_append_52 hl (k := 0) rfl (by decide) (by decide) rfl (fun ls hl => ?_)
  refine lv_goto (tgt := 3) hx hb dX6_append_55 (by decide) ?_
  refine lv_iload_n hx hb dX6_append_3 rfl (lv_at hl 0 rfl) ?_
  refine lv_if_lt (tgt := 58) hx hb dX6_append_4 (by decide) (fun c_13 => absurd c_13 (by decide)) (fun c_13 => ?_)
  refine lv_aload_n hx hb dX6_append_7 rfl (lv_at hl 1 rfl) ?_
  refine va_get (D := D) (ci := 6) (v := .int (nI (n + 1 + 1 + 1))) (C := RX6) (T := TX6) (N := 5) hx hb hts hin6 hown hK hP 0 rfl rfl 0 (by decide) (hts (.fieldLink RX6 15 "HoneyHouse$Tape" "length" "I") (List.mem_of_getElem? (i := 1) rfl)) (fun _ h9 => h9) rfl dX6_append_8 ?_
  refine lv_if_lt (tgt := 52) hx hb dX6_append_11 (by decide) (fun c_14 => absurd c_14 (nI_pos (by omega))) (fun c_14 => ?_)
  refine lv_aload_n hx hb dX6_append_14 rfl (lv_at hl 1 rfl) ?_
  refine va_get (D := D) (ci := 6) (v := .int (nI (n + 1 + 1 + 1))) (C := RX6) (T := TX6) (N := 5) hx hb hts hin6 hown hK hP 0 rfl rfl 0 (by decide) (hts (.fieldLink RX6 15 "HoneyHouse$Tape" "length" "I") (List.mem_of_getElem? (i := 1) rfl)) (fun _ h9 => h9) rfl dX6_append_15 ?_
  refine lv_aload_n hx hb dX6_append_18 rfl (lv_at hl 1 rfl) ?_
  refine va_get (D := D) (ci := 6) (v := .ref bb) (C := RX6) (T := TX6) (N := 5) hx hb hts hin6 hown hK hP 0 rfl rfl 4 (by decide) (hts (.fieldLink RX6 9 "HoneyHouse$Tape" "bytes" "[I") (List.mem_of_getElem? (i := 2) rfl)) (fun _ h9 => h9) rfl dX6_append_19 ?_
  refine va_alen (v := 400) hx hb hK hP 1 0 rfl rfl rfl dX6_append_22 ?_
  refine lv_icmp_ge (tgt := 52) hx hb dX6_append_23 (by decide) (fun c_15 => absurd c_15 (show ¬ (400 : Int32) ≤ nI (n + 1 + 1 + 1) from nI_ge (a := (n + 1 + 1 + 1)) (b := 400) (by omega) (by omega))) (fun c_15 => ?_)
  refine lv_aload_n hx hb dX6_append_26 rfl (lv_at hl 1 rfl) ?_
  refine va_get (D := D) (ci := 6) (v := .ref bb) (C := RX6) (T := TX6) (N := 5) hx hb hts hin6 hown hK hP 0 rfl rfl 4 (by decide) (hts (.fieldLink RX6 9 "HoneyHouse$Tape" "bytes" "[I") (List.mem_of_getElem? (i := 2) rfl)) (fun _ h9 => h9) rfl dX6_append_27 ?_
  refine lv_aload_n hx hb dX6_append_30 rfl (lv_at hl 1 rfl) ?_
  refine va_get (D := D) (ci := 6) (v := .int (nI (n + 1 + 1 + 1))) (C := RX6) (T := TX6) (N := 5) hx hb hts hin6 hown hK hP 0 rfl rfl 0 (by decide) (hts (.fieldLink RX6 15 "HoneyHouse$Tape" "length" "I") (List.mem_of_getElem? (i := 1) rfl)) (fun _ h9 => h9) rfl dX6_append_31 ?_
  refine lv_iload_n hx hb dX6_append_34 rfl (lv_at hl 2 rfl) ?_
  refine lv_iload_n hx hb dX6_append_35 rfl (lv_at hl 0 rfl) ?_
  refine lv_ishr hx hb dX6_append_36 ?_
  refine lv_sipush (v := 255) hx hb dX6_append_37 (by decide) ?_
  refine lv_iand hx hb dX6_append_40 ?_
  refine va_iast (f := f_12) (n := 400) hx hb hK hP hD hS 1 0 rfl rfl (vp_in_nI (by omega) (by omega)) dX6_append_41 (fun H locs hP hD hS => ?_)
  have hP : va_P D vwCl [(h0, .inr (6, [.int (nI (n + 1 + 1 + 1)), .int tk, .int ts, .int te, .ref bb])), (bb, .inl (cb, 400, .inl (upd f_12 (nI (n + 1 + 1 + 1)).toNatClampNeg ((a1 >>> (0 &&& 31)) &&& 255))))] H := hP
  have hD : va_D A [(h0, .inr (6, [.int (nI (n + 1 + 1 + 1)), .int tk, .int ts, .int te, .ref bb])), (bb, .inl (cb, 400, .inl (upd f_12 (nI (n + 1 + 1 + 1)).toNatClampNeg ((a1 >>> (0 &&& 31)) &&& 255))))] := hD
  generalize upd f_12 (nI (n + 1 + 1 + 1)).toNatClampNeg ((a1 >>> (0 &&& 31)) &&& 255) = f_16 at hP hD
  have hP : va_P D vwCl [(h0, .inr (6, [.int (nI (n + 1 + 1 + 1)), .int tk, .int ts, .int te, .ref bb])), (bb, .inl (cb, 400, .inl f_16))] H := hP
  have hD : va_D A [(h0, .inr (6, [.int (nI (n + 1 + 1 + 1)), .int tk, .int ts, .int te, .ref bb])), (bb, .inl (cb, 400, .inl f_16))] := hD
  refine lv_aload_n hx hb dX6_append_42 rfl (lv_at hl 1 rfl) ?_
  refine lv_dup hx hb dX6_append_43 rfl ?_
  refine va_get (D := D) (ci := 6) (v := .int (nI (n + 1 + 1 + 1))) (C := RX6) (T := TX6) (N := 5) hx hb hts hin6 hown hK hP 0 rfl rfl 0 (by decide) (hts (.fieldLink RX6 15 "HoneyHouse$Tape" "length" "I") (List.mem_of_getElem? (i := 1) rfl)) (fun _ h9 => h9) rfl dX6_append_44 ?_
  refine lv_iconst (v := 1) hx hb dX6_append_47 (by decide) ?_
  refine lv_iadd hx hb dX6_append_48 ?_
  refine tp_i (y := nI (n + 1 + 1 + 1 + 1)) (nI_1 _) ?_
  refine va_put (D := D) (ci := 6) (v := .int (nI (n + 1 + 1 + 1 + 1))) (ty := .int) (C := RX6) (T := TX6) (N := 5) hx hb hts hin6 tyX6 tyX6_ok nmX6 hown hK hP hD hS 0 rfl rfl 0 (by decide) (hts (.fieldLink RX6 15 "HoneyHouse$Tape" "length" "I") (List.mem_of_getElem? (i := 1) rfl)) (fun _ h9 => h9) rfl (tyX6_ok 0 (by decide)) rfl rfl (Nat.le_of_ble_eq_true rfl) dX6_append_49 (fun H locs hP hD hS => ?_)
  have hP : va_P D vwCl [(h0, .inr (6, [.int (nI (n + 1 + 1 + 1 + 1)), .int tk, .int ts, .int te, .ref bb])), (bb, .inl (cb, 400, .inl f_16))] H := hP
  have hD : va_D A [(h0, .inr (6, [.int (nI (n + 1 + 1 + 1 + 1)), .int tk, .int ts, .int te, .ref bb])), (bb, .inl (cb, 400, .inl f_16))] := hD
  refine lv_iinc (v := (-8)) (lv' := [(2, .int (-8)), (0, .ref h0), (1, .int a1)]) hx hb dX6_append_52 hl (k := 0) rfl (by decide) (by decide) rfl (fun ls hl => ?_)
  refine lv_goto (tgt := 3) hx hb dX6_append_55 (by decide) ?_
  refine lv_iload_n hx hb dX6_append_3 rfl (lv_at hl 0 rfl) ?_
  refine lv_if_lt (tgt := 58) hx hb dX6_append_4 (by decide) (fun c_17 => ?_) (fun c_17 => absurd (by decide) c_17)
  have hP9 := hP.sub (ws' := [(h0, .inr (6, [.int (nI (n + 1 + 1 + 1 + 1)), .int tk, .int ts, .int te, .ref bb])), (bb, .inl (cb, 400, .inl f_16))]) [0, 1] rfl
  have hD9 := hD.sub (ws' := [(h0, .inr (6, [.int (nI (n + 1 + 1 + 1 + 1)), .int tk, .int ts, .int te, .ref bb])), (bb, .inl (cb, 400, .inl f_16))]) [0, 1] (by decide) rfl
  have hK9 := hK.sub (tys' := [(cb, .int)]) [0] rfl
  refine W.widen (k := 0) (n := 0) (by omega) (by omega) ?_
  exact W.vret hx hb hr (fun t ht hW => ⟨⟨(), rfl, trivial, f_16, by rw [ht]; exact hP9, va_K.moved hW.alike hK9, hD9⟩, hS.F ht⟩) hS.2.2 dX6_append_58
set_option maxHeartbeats 4000000 in
set_option maxRecDepth 100000 in
theorem q_X8_feed (l : Launch) (D : va_G) (h0 rd tp : Nat) (fs rs : List Value) (bb : Nat) (cb : ClassId) (a1 a2 a3 a4 a5 : Int32) (sz : Nat) (f5 : fs[5]? = some (.ref rd)) (r0 : rs[0]? = some (.ref tp)) : Met l yX8_feed wsX8_feed ({ frames := 1, cells := 0, slots := 0, locals := 22 }) (va_Pc [.ref h0, .int a1, .int a2, .int a3, .int a4, .int a5] (fun U => U.heap.size = sz ∧ va_P D vwCl [(h0, .inr (8, fs)), (rd, .inr (4, rs)), (tp, .inr (6, [.int 0, .int 0, .int 0, .int 0, .ref bb])), (bb, .inl (cb, 400, .inl (fun _ => 0)))] U.heap ∧ va_K D vwCl [(cb, .int)] U ∧ va_D (fun _ => True) [(h0, .inr (8, fs)), (rd, .inr (4, rs)), (tp, .inr (6, [.int 0, .int 0, .int 0, .int 0, .ref bb])), (bb, .inl (cb, 400, .inl (fun _ => 0)))])) (va_Qi (fun (r : Int32) (_ : Unit) => r = 20) (fun (_ : Unit) (t : State) => va_P D vwCl [] t.heap ∧ va_K D vwCl [] t ∧ va_D (va_A [(h0, .inr (8, fs)), (rd, .inr (4, rs)), (tp, .inr (6, [.int 0, .int 0, .int 0, .int 0, .ref bb])), (bb, .inl (cb, 400, .inl (fun _ => 0)))] sz) []) (va_A [(h0, .inr (8, fs)), (rd, .inr (4, rs)), (tp, .inr (6, [.int 0, .int 0, .int 0, .int 0, .ref bb])), (bb, .inl (cb, 400, .inl (fun _ => 0)))] sz)) 0 0 (va_A [(h0, .inr (8, fs)), (rd, .inr (4, rs)), (tp, .inr (6, [.int 0, .int 0, .int 0, .int 0, .ref bb])), (bb, .inl (cb, 400, .inl (fun _ => 0)))] sz) := by
  refine Met.ofW (cc := cX8_feed) (maxL := 7) (ret := (some .int)) (by decide) rfl ?_
  intro p e s m args below meth c s₁ B hml hv
  obtain ⟨rfl, hsz, hP, hK, hD0⟩ := hv
  have hx := B.exec
  have hb := B.bytes
  have hr := B.returns
  have hts := atoms_spec (ws := wsX8_feed) B.pre
  have hown : s.vm.findClass RX8 = some m.cls := findClass_of_methodNamed B.named
  have hlocks := B.notSynchronized
  subst hsz
  have hD := hD0.self (sz := s.heap.size)
  generalize hAe : va_A [(h0, .inr (8, fs)), (rd, .inr (4, rs)), (tp, .inr (6, [.int 0, .int 0, .int 0, .int 0, .ref bb])), (bb, .inl (cb, 400, .inl (fun _ => 0)))] s.heap.size = A at hD ⊢
  have hA : ∀ q : Nat, s.heap.size ≤ q → A q := fun q h => by rw [← hAe]; exact Or.inr h
  have hS : va_S A s.heap s.heap [] := va_S.rf
  have hP : va_P D vwCl [(h0, .inr (8, fs)), (rd, .inr (4, rs)), (tp, .inr (6, [.int 0, .int 0, .int 0, .int 0, .ref bb])), (bb, .inl (cb, 400, .inl (fun _ => 0)))] s.heap := hP
  have hin4 : ∀ w ∈ u_ws RX4 TX4 8, w ∈ wsX8_feed := (fun _ h9 => List.mem_cons_of_mem _ (List.mem_append_left _ ((List.mem_append_right _ h9))))
  have hin6 : ∀ w ∈ u_ws RX6 TX6 5, w ∈ wsX8_feed := (fun _ h9 => List.mem_cons_of_mem _ ((List.mem_append_right _ h9)))
  have hin8 : ∀ w ∈ u_ws RX8 TX8 15, w ∈ wsX8_feed := (fun _ h9 => List.mem_cons_of_mem _ (List.mem_append_left _ (List.mem_append_left _ ((List.mem_append_right _ h9)))))
  have hl := lv_entry ([.ref h0, .int a1, .int a2, .int a3, .int a4, .int a5]) (n := 7) (Nat.le_of_ble_eq_true rfl)
  rw [lg_entry_eq]
  generalize (lg_sl ([.ref h0, .int a1, .int a2, .int a3, .int a4, .int a5]) ++ List.replicate (7 - (lg_sl ([.ref h0, .int a1, .int a2, .int a3, .int a4, .int a5])).length) Slot.unset).toArray = ls at hl ⊢
  have hl : lv_has ls 7 [(0, .ref h0), (1, .int a1), (2, .int a2), (3, .int a3), (4, .int a4), (5, .int a5)] := hl
  refine lv_aload_n hx hb dX8_feed_0 rfl (lv_at hl 0 rfl) ?_
  refine va_get (D := D) (ci := 8) (v := .ref rd) (C := RX8) (T := TX8) (N := 15) hx hb hts hin8 hown hK hP 0 rfl rfl 5 (by decide) (hts (.fieldLink RX8 40 "HoneyHouse" "reader" "LHoneyHouse$RuleReader;") (List.mem_of_getElem? (i := 1) rfl)) (fun _ h9 => h9) f5 dX8_feed_1 ?_
  refine va_get (D := D) (ci := 4) (v := .ref tp) (C := RX4) (T := TX4) (N := 8) hx hb hts hin4 hown hK hP 1 rfl rfl 0 (by decide) (hts (.fieldLink RX8 68 "HoneyHouse$RuleReader" "tape" "LHoneyHouse$Tape;") (List.mem_of_getElem? (i := 2) rfl)) (fun _ h9 => h9) r0 dX8_feed_4 ?_
  refine lv_astore (lv' := [(6, .ref tp), (0, .ref h0), (1, .int a1), (2, .int a2), (3, .int a3), (4, .int a4), (5, .int a5)]) hx hb dX8_feed_7 hl (by decide) rfl (fun ls hl => ?_)
  refine lv_aload hx hb dX8_feed_9 (lv_at hl 0 rfl) ?_
  refine va_get (D := D) (ci := 6) (v := .int 0) (C := RX6) (T := TX6) (N := 5) hx hb hts hin6 hown hK hP 2 rfl rfl 0 (by decide) (hts (.fieldLink RX8 72 "HoneyHouse$Tape" "length" "I") (List.mem_of_getElem? (i := 3) rfl)) (fun _ h9 => h9) rfl dX8_feed_11 ?_
  refine lv_sipush (v := 380) hx hb dX8_feed_14 (by decide) ?_
  refine lv_icmp_le (tgt := 22) hx hb dX8_feed_17 (by decide) (fun c_1 => ?_) (fun c_1 => absurd (by decide) c_1)
  refine lv_aload hx hb dX8_feed_22 (lv_at hl 0 rfl) ?_
  refine lv_iload_n hx hb dX8_feed_24 rfl (lv_at hl 2 rfl) ?_
  have hPc := hP.sub (ws' := [(tp, .inr (6, [.int 0, .int 0, .int 0, .int 0, .ref bb])), (bb, .inl (cb, 400, .inl (fun _ => 0)))]) [2, 3] rfl
  have hDc := hD.sub (ws' := [(tp, .inr (6, [.int 0, .int 0, .int 0, .int 0, .ref bb])), (bb, .inl (cb, 400, .inl (fun _ => 0)))]) [2, 3] (by decide) rfl
  have hKc := hK.sub (tys' := [(cb, .int)]) [0] rfl
  have hFc := va_free (wc := [(tp, .inr (6, [.int 0, .int 0, .int 0, .int 0, .ref bb])), (bb, .inl (cb, 400, .inl (fun _ => 0)))]) hD hS hA [2, 3] rfl
  refine va_callv (va_runV (As := [.int a1]) (rest := []) ⟨hx, hb, hml, hown, hts⟩ (q_X6_append l D tp bb cb 0 0 0 0 (fun _ => 0) a1 s.heap.size (by omega)) (cwV 1 hts gX8_feed_X6_append rfl rfl rfl (by decide +kernel) ⟨Nat.le_of_ble_eq_true rfl, Nat.le_of_ble_eq_true rfl⟩) ⟨fun a U g mk q => by obtain ⟨q0, q1, qP, qK, qD⟩ := q; exact ⟨q0, q1, qP, va_K.moved (u := U) (U := U.calling g mk a) (Vm.Alike.refl U.vm) qK, qD⟩, va_recv hKc hPc (ci := 6) (q0 := 0) rfl rfl, fun U hU hW => ⟨rfl, by rw [hU], by rw [hU]; exact hPc, va_K.moved hW.alike hKc, hDc.weaken (fun _ _ _ _ => trivial)⟩⟩ rfl rfl hl.1 rfl (lv_room (Nat.le_of_ble_eq_true rfl)) dX8_feed_25 ⟨Nat.le_of_ble_eq_true rfl, Nat.le_of_ble_eq_true rfl⟩) hS (fun q _ h => hFc q h) hFc (fun u t H1 locs ht hvm w_3 hB hz1 hk1 hS => ?_)
  obtain ⟨f_4, hP1, hK1, hD1⟩ := hB
  rw [ht] at hP1
  have hK1 := va_K.moved hvm.symm hK1
  obtain ⟨hP, hD⟩ := va_join (wr := [(h0, .inr (8, fs)), (rd, .inr (4, rs))]) (w1 := [(tp, .inr (6, [.int (nI 4), .int 0, .int 0, .int 0, .ref bb])), (bb, .inl (cb, 400, .inl f_4))]) hP hD [2, 3] [0, 1] rfl rfl (by decide) (by decide) hk1 hFc hP1 hD1
  have hK := hK.app hK1
  generalize H1 = H at hP hS ⊢
  have hP : va_P D vwCl [(h0, .inr (8, fs)), (rd, .inr (4, rs)), (tp, .inr (6, [.int (nI 4), .int 0, .int 0, .int 0, .ref bb])), (bb, .inl (cb, 400, .inl f_4))] H := hP
  have hD : va_D A [(h0, .inr (8, fs)), (rd, .inr (4, rs)), (tp, .inr (6, [.int (nI 4), .int 0, .int 0, .int 0, .ref bb])), (bb, .inl (cb, 400, .inl f_4))] := hD
  have hK : va_K D vwCl [(cb, .int), (cb, .int)] s := hK
  refine lv_aload hx hb dX8_feed_28 (lv_at hl 0 rfl) ?_
  refine lv_iload_n hx hb dX8_feed_30 rfl (lv_at hl 3 rfl) ?_
  have hPc := hP.sub (ws' := [(tp, .inr (6, [.int (nI 4), .int 0, .int 0, .int 0, .ref bb])), (bb, .inl (cb, 400, .inl f_4))]) [2, 3] rfl
  have hDc := hD.sub (ws' := [(tp, .inr (6, [.int (nI 4), .int 0, .int 0, .int 0, .ref bb])), (bb, .inl (cb, 400, .inl f_4))]) [2, 3] (by decide) rfl
  have hKc := hK.sub (tys' := [(cb, .int)]) [0] rfl
  have hFc := va_free (wc := [(tp, .inr (6, [.int (nI 4), .int 0, .int 0, .int 0, .ref bb])), (bb, .inl (cb, 400, .inl f_4))]) hD hS hA [2, 3] rfl
  refine va_callv (va_runV (As := [.int a2]) (rest := []) ⟨hx, hb, hml, hown, hts⟩ (q_X6_append l D tp bb cb 4 0 0 0 f_4 a2 H.size (by omega)) (cwV 1 hts gX8_feed_X6_append rfl rfl rfl (by decide +kernel) ⟨Nat.le_of_ble_eq_true rfl, Nat.le_of_ble_eq_true rfl⟩) ⟨fun a U g mk q => by obtain ⟨q0, q1, qP, qK, qD⟩ := q; exact ⟨q0, q1, qP, va_K.moved (u := U) (U := U.calling g mk a) (Vm.Alike.refl U.vm) qK, qD⟩, va_recv hKc hPc (ci := 6) (q0 := 0) rfl rfl, fun U hU hW => ⟨rfl, by rw [hU], by rw [hU]; exact hPc, va_K.moved hW.alike hKc, hDc.weaken (fun _ _ _ _ => trivial)⟩⟩ rfl rfl hl.1 rfl (lv_room (Nat.le_of_ble_eq_true rfl)) dX8_feed_31 ⟨Nat.le_of_ble_eq_true rfl, Nat.le_of_ble_eq_true rfl⟩) hS (fun q _ h => hFc q h) hFc (fun u t H1 locs ht hvm w_6 hB hz1 hk1 hS => ?_)
  obtain ⟨f_7, hP1, hK1, hD1⟩ := hB
  rw [ht] at hP1
  have hK1 := va_K.moved hvm.symm hK1
  obtain ⟨hP, hD⟩ := va_join (wr := [(h0, .inr (8, fs)), (rd, .inr (4, rs))]) (w1 := [(tp, .inr (6, [.int (nI 8), .int 0, .int 0, .int 0, .ref bb])), (bb, .inl (cb, 400, .inl f_7))]) hP hD [2, 3] [0, 1] rfl rfl (by decide) (by decide) hk1 hFc hP1 hD1
  have hK := hK.app hK1
  generalize H1 = H at hP hS ⊢
  have hP : va_P D vwCl [(h0, .inr (8, fs)), (rd, .inr (4, rs)), (tp, .inr (6, [.int (nI 8), .int 0, .int 0, .int 0, .ref bb])), (bb, .inl (cb, 400, .inl f_7))] H := hP
  have hD : va_D A [(h0, .inr (8, fs)), (rd, .inr (4, rs)), (tp, .inr (6, [.int (nI 8), .int 0, .int 0, .int 0, .ref bb])), (bb, .inl (cb, 400, .inl f_7))] := hD
  have hK : va_K D vwCl [(cb, .int), (cb, .int), (cb, .int)] s := hK
  refine lv_aload hx hb dX8_feed_34 (lv_at hl 0 rfl) ?_
  refine lv_iload_n hx hb dX8_feed_36 rfl (lv_at hl 4 rfl) ?_
  have hPc := hP.sub (ws' := [(tp, .inr (6, [.int (nI 8), .int 0, .int 0, .int 0, .ref bb])), (bb, .inl (cb, 400, .inl f_7))]) [2, 3] rfl
  have hDc := hD.sub (ws' := [(tp, .inr (6, [.int (nI 8), .int 0, .int 0, .int 0, .ref bb])), (bb, .inl (cb, 400, .inl f_7))]) [2, 3] (by decide) rfl
  have hKc := hK.sub (tys' := [(cb, .int)]) [0] rfl
  have hFc := va_free (wc := [(tp, .inr (6, [.int (nI 8), .int 0, .int 0, .int 0, .ref bb])), (bb, .inl (cb, 400, .inl f_7))]) hD hS hA [2, 3] rfl
  refine va_callv (va_runV (As := [.int a3]) (rest := []) ⟨hx, hb, hml, hown, hts⟩ (q_X6_append l D tp bb cb 8 0 0 0 f_7 a3 H.size (by omega)) (cwV 1 hts gX8_feed_X6_append rfl rfl rfl (by decide +kernel) ⟨Nat.le_of_ble_eq_true rfl, Nat.le_of_ble_eq_true rfl⟩) ⟨fun a U g mk q => by obtain ⟨q0, q1, qP, qK, qD⟩ := q; exact ⟨q0, q1, qP, va_K.moved (u := U) (U := U.calling g mk a) (Vm.Alike.refl U.vm) qK, qD⟩, va_recv hKc hPc (ci := 6) (q0 := 0) rfl rfl, fun U hU hW => ⟨rfl, by rw [hU], by rw [hU]; exact hPc, va_K.moved hW.alike hKc, hDc.weaken (fun _ _ _ _ => trivial)⟩⟩ rfl rfl hl.1 rfl (lv_room (Nat.le_of_ble_eq_true rfl)) dX8_feed_37 ⟨Nat.le_of_ble_eq_true rfl, Nat.le_of_ble_eq_true rfl⟩) hS (fun q _ h => hFc q h) hFc (fun u t H1 locs ht hvm w_9 hB hz1 hk1 hS => ?_)
  obtain ⟨f_10, hP1, hK1, hD1⟩ := hB
  rw [ht] at hP1
  have hK1 := va_K.moved hvm.symm hK1
  obtain ⟨hP, hD⟩ := va_join (wr := [(h0, .inr (8, fs)), (rd, .inr (4, rs))]) (w1 := [(tp, .inr (6, [.int (nI 12), .int 0, .int 0, .int 0, .ref bb])), (bb, .inl (cb, 400, .inl f_10))]) hP hD [2, 3] [0, 1] rfl rfl (by decide) (by decide) hk1 hFc hP1 hD1
  have hK := hK.app hK1
  generalize H1 = H at hP hS ⊢
  have hP : va_P D vwCl [(h0, .inr (8, fs)), (rd, .inr (4, rs)), (tp, .inr (6, [.int (nI 12), .int 0, .int 0, .int 0, .ref bb])), (bb, .inl (cb, 400, .inl f_10))] H := hP
  have hD : va_D A [(h0, .inr (8, fs)), (rd, .inr (4, rs)), (tp, .inr (6, [.int (nI 12), .int 0, .int 0, .int 0, .ref bb])), (bb, .inl (cb, 400, .inl f_10))] := hD
  have hK : va_K D vwCl [(cb, .int), (cb, .int), (cb, .int), (cb, .int)] s := hK
  refine lv_aload hx hb dX8_feed_40 (lv_at hl 0 rfl) ?_
  refine lv_iload hx hb dX8_feed_42 (lv_at hl 5 rfl) ?_
  have hPc := hP.sub (ws' := [(tp, .inr (6, [.int (nI 12), .int 0, .int 0, .int 0, .ref bb])), (bb, .inl (cb, 400, .inl f_10))]) [2, 3] rfl
  have hDc := hD.sub (ws' := [(tp, .inr (6, [.int (nI 12), .int 0, .int 0, .int 0, .ref bb])), (bb, .inl (cb, 400, .inl f_10))]) [2, 3] (by decide) rfl
  have hKc := hK.sub (tys' := [(cb, .int)]) [0] rfl
  have hFc := va_free (wc := [(tp, .inr (6, [.int (nI 12), .int 0, .int 0, .int 0, .ref bb])), (bb, .inl (cb, 400, .inl f_10))]) hD hS hA [2, 3] rfl
  refine va_callv (va_runV (As := [.int a4]) (rest := []) ⟨hx, hb, hml, hown, hts⟩ (q_X6_append l D tp bb cb 12 0 0 0 f_10 a4 H.size (by omega)) (cwV 1 hts gX8_feed_X6_append rfl rfl rfl (by decide +kernel) ⟨Nat.le_of_ble_eq_true rfl, Nat.le_of_ble_eq_true rfl⟩) ⟨fun a U g mk q => by obtain ⟨q0, q1, qP, qK, qD⟩ := q; exact ⟨q0, q1, qP, va_K.moved (u := U) (U := U.calling g mk a) (Vm.Alike.refl U.vm) qK, qD⟩, va_recv hKc hPc (ci := 6) (q0 := 0) rfl rfl, fun U hU hW => ⟨rfl, by rw [hU], by rw [hU]; exact hPc, va_K.moved hW.alike hKc, hDc.weaken (fun _ _ _ _ => trivial)⟩⟩ rfl rfl hl.1 rfl (lv_room (Nat.le_of_ble_eq_true rfl)) dX8_feed_44 ⟨Nat.le_of_ble_eq_true rfl, Nat.le_of_ble_eq_true rfl⟩) hS (fun q _ h => hFc q h) hFc (fun u t H1 locs ht hvm w_12 hB hz1 hk1 hS => ?_)
  obtain ⟨f_13, hP1, hK1, hD1⟩ := hB
  rw [ht] at hP1
  have hK1 := va_K.moved hvm.symm hK1
  obtain ⟨hP, hD⟩ := va_join (wr := [(h0, .inr (8, fs)), (rd, .inr (4, rs))]) (w1 := [(tp, .inr (6, [.int (nI 16), .int 0, .int 0, .int 0, .ref bb])), (bb, .inl (cb, 400, .inl f_13))]) hP hD [2, 3] [0, 1] rfl rfl (by decide) (by decide) hk1 hFc hP1 hD1
  have hK := hK.app hK1
  generalize H1 = H at hP hS ⊢
  have hP : va_P D vwCl [(h0, .inr (8, fs)), (rd, .inr (4, rs)), (tp, .inr (6, [.int (nI 16), .int 0, .int 0, .int 0, .ref bb])), (bb, .inl (cb, 400, .inl f_13))] H := hP
  have hD : va_D A [(h0, .inr (8, fs)), (rd, .inr (4, rs)), (tp, .inr (6, [.int (nI 16), .int 0, .int 0, .int 0, .ref bb])), (bb, .inl (cb, 400, .inl f_13))] := hD
  have hK : va_K D vwCl [(cb, .int), (cb, .int), (cb, .int), (cb, .int), (cb, .int)] s := hK
  refine lv_aload hx hb dX8_feed_47 (lv_at hl 0 rfl) ?_
  refine lv_iload hx hb dX8_feed_49 (lv_at hl 6 rfl) ?_
  have hPc := hP.sub (ws' := [(tp, .inr (6, [.int (nI 16), .int 0, .int 0, .int 0, .ref bb])), (bb, .inl (cb, 400, .inl f_13))]) [2, 3] rfl
  have hDc := hD.sub (ws' := [(tp, .inr (6, [.int (nI 16), .int 0, .int 0, .int 0, .ref bb])), (bb, .inl (cb, 400, .inl f_13))]) [2, 3] (by decide) rfl
  have hKc := hK.sub (tys' := [(cb, .int)]) [0] rfl
  have hFc := va_free (wc := [(tp, .inr (6, [.int (nI 16), .int 0, .int 0, .int 0, .ref bb])), (bb, .inl (cb, 400, .inl f_13))]) hD hS hA [2, 3] rfl
  refine va_callv (va_runV (As := [.int a5]) (rest := []) ⟨hx, hb, hml, hown, hts⟩ (q_X6_append l D tp bb cb 16 0 0 0 f_13 a5 H.size (by omega)) (cwV 1 hts gX8_feed_X6_append rfl rfl rfl (by decide +kernel) ⟨Nat.le_of_ble_eq_true rfl, Nat.le_of_ble_eq_true rfl⟩) ⟨fun a U g mk q => by obtain ⟨q0, q1, qP, qK, qD⟩ := q; exact ⟨q0, q1, qP, va_K.moved (u := U) (U := U.calling g mk a) (Vm.Alike.refl U.vm) qK, qD⟩, va_recv hKc hPc (ci := 6) (q0 := 0) rfl rfl, fun U hU hW => ⟨rfl, by rw [hU], by rw [hU]; exact hPc, va_K.moved hW.alike hKc, hDc.weaken (fun _ _ _ _ => trivial)⟩⟩ rfl rfl hl.1 rfl (lv_room (Nat.le_of_ble_eq_true rfl)) dX8_feed_51 ⟨Nat.le_of_ble_eq_true rfl, Nat.le_of_ble_eq_true rfl⟩) hS (fun q _ h => hFc q h) hFc (fun u t H1 locs ht hvm w_15 hB hz1 hk1 hS => ?_)
  obtain ⟨f_16, hP1, hK1, hD1⟩ := hB
  rw [ht] at hP1
  have hK1 := va_K.moved hvm.symm hK1
  obtain ⟨hP, hD⟩ := va_join (wr := [(h0, .inr (8, fs)), (rd, .inr (4, rs))]) (w1 := [(tp, .inr (6, [.int (nI 20), .int 0, .int 0, .int 0, .ref bb])), (bb, .inl (cb, 400, .inl f_16))]) hP hD [2, 3] [0, 1] rfl rfl (by decide) (by decide) hk1 hFc hP1 hD1
  have hK := hK.app hK1
  generalize H1 = H at hP hS ⊢
  have hP : va_P D vwCl [(h0, .inr (8, fs)), (rd, .inr (4, rs)), (tp, .inr (6, [.int (nI 20), .int 0, .int 0, .int 0, .ref bb])), (bb, .inl (cb, 400, .inl f_16))] H := hP
  have hD : va_D A [(h0, .inr (8, fs)), (rd, .inr (4, rs)), (tp, .inr (6, [.int (nI 20), .int 0, .int 0, .int 0, .ref bb])), (bb, .inl (cb, 400, .inl f_16))] := hD
  have hK : va_K D vwCl [(cb, .int), (cb, .int), (cb, .int), (cb, .int), (cb, .int), (cb, .int)] s := hK
  refine lv_aload hx hb dX8_feed_54 (lv_at hl 0 rfl) ?_
  refine va_get (D := D) (ci := 6) (v := .int (nI 20)) (C := RX6) (T := TX6) (N := 5) hx hb hts hin6 hown hK hP 2 rfl rfl 0 (by decide) (hts (.fieldLink RX8 72 "HoneyHouse$Tape" "length" "I") (List.mem_of_getElem? (i := 3) rfl)) (fun _ h9 => h9) rfl dX8_feed_56 ?_
  have hP9 := hP.sub (ws' := []) [] rfl
  have hD9 := hD.sub (ws' := []) [] (by decide) rfl
  have hK9 := hK.sub (tys' := []) [] rfl
  refine W.widen (k := 0) (n := 0) (by omega) (by omega) ?_
  exact W.iret (v := nI 20) hx hb hr (fun t ht hW => ⟨⟨nI 20, (), rfl, rfl, by rw [ht]; exact hP9, va_K.moved hW.alike hK9, hD9⟩, hS.F ht⟩) hS.2.2 dX8_feed_59
set_option maxHeartbeats 4000000 in
set_option maxRecDepth 100000 in
theorem q_X8_end (l : Launch) (D : va_G) (h0 rd tp : Nat) (fs rs : List Value) (bb : Nat) (a1 : Int32) (sz : Nat) (f5 : fs[5]? = some (.ref rd)) (r0 : rs[0]? = some (.ref tp)) : Met l yX8_end wsX8_end ({ frames := 0, cells := 0, slots := 0, locals := 0 }) (va_Pc [.ref h0, .int a1] (fun U => U.heap.size = sz ∧ va_P D vwCl [(h0, .inr (8, fs)), (rd, .inr (4, rs)), (tp, .inr (6, [.int 0, .int 0, .int 0, .int 0, .ref bb]))] U.heap ∧ va_K D vwCl [] U ∧ va_D (fun _ => True) [(h0, .inr (8, fs)), (rd, .inr (4, rs)), (tp, .inr (6, [.int 0, .int 0, .int 0, .int 0, .ref bb]))])) (va_Qi (fun (r : Int32) (_ : Unit) => r = if a1 < 0 then 0 else if 0 < a1 then 0 else 1) (fun (_ : Unit) (t : State) => va_P D vwCl [] t.heap ∧ va_K D vwCl [] t ∧ va_D (va_A [(h0, .inr (8, fs)), (rd, .inr (4, rs)), (tp, .inr (6, [.int 0, .int 0, .int 0, .int 0, .ref bb]))] sz) []) (va_A [(h0, .inr (8, fs)), (rd, .inr (4, rs)), (tp, .inr (6, [.int 0, .int 0, .int 0, .int 0, .ref bb]))] sz)) 0 0 (va_A [(h0, .inr (8, fs)), (rd, .inr (4, rs)), (tp, .inr (6, [.int 0, .int 0, .int 0, .int 0, .ref bb]))] sz) := by
  refine Met.ofW (cc := cX8_end) (maxL := 2) (ret := (some .boolean)) (by decide) rfl ?_
  intro p e s m args below meth c s₁ B hml hv
  obtain ⟨rfl, hsz, hP, hK, hD0⟩ := hv
  have hx := B.exec
  have hb := B.bytes
  have hr := B.returns
  have hts := atoms_spec (ws := wsX8_end) B.pre
  have hown : s.vm.findClass RX8 = some m.cls := findClass_of_methodNamed B.named
  have hlocks := B.notSynchronized
  subst hsz
  have hD := hD0.self (sz := s.heap.size)
  generalize hAe : va_A [(h0, .inr (8, fs)), (rd, .inr (4, rs)), (tp, .inr (6, [.int 0, .int 0, .int 0, .int 0, .ref bb]))] s.heap.size = A at hD ⊢
  have hA : ∀ q : Nat, s.heap.size ≤ q → A q := fun q h => by rw [← hAe]; exact Or.inr h
  have hS : va_S A s.heap s.heap [] := va_S.rf
  have hP : va_P D vwCl [(h0, .inr (8, fs)), (rd, .inr (4, rs)), (tp, .inr (6, [.int 0, .int 0, .int 0, .int 0, .ref bb]))] s.heap := hP
  have hin4 : ∀ w ∈ u_ws RX4 TX4 8, w ∈ wsX8_end := (fun _ h9 => List.mem_cons_of_mem _ (List.mem_append_left _ ((List.mem_append_right _ h9))))
  have hin6 : ∀ w ∈ u_ws RX6 TX6 5, w ∈ wsX8_end := (fun _ h9 => List.mem_cons_of_mem _ ((List.mem_append_right _ h9)))
  have hin8 : ∀ w ∈ u_ws RX8 TX8 15, w ∈ wsX8_end := (fun _ h9 => List.mem_cons_of_mem _ (List.mem_append_left _ (List.mem_append_left _ ((List.mem_append_right _ h9)))))
  have hl := lv_entry ([.ref h0, .int a1]) (n := 2) (Nat.le_of_ble_eq_true rfl)
  rw [lg_entry_eq]
  generalize (lg_sl ([.ref h0, .int a1]) ++ List.replicate (2 - (lg_sl ([.ref h0, .int a1])).length) Slot.unset).toArray = ls at hl ⊢
  have hl : lv_has ls 2 [(0, .ref h0), (1, .int a1)] := hl
  refine lv_iload_n hx hb dX8_end_0 rfl (lv_at hl 1 rfl) ?_
  refine lv_if_lt (tgt := 18) hx hb dX8_end_1 (by decide) (fun c_1 => ?_) (fun c_1 => ?_)
  · refine lv_iconst (v := 0) hx hb dX8_end_18 (by decide) ?_
    have hP9 := hP.sub (ws' := []) [] rfl
    have hD9 := hD.sub (ws' := []) [] (by decide) rfl
    have hK9 := hK.sub (tys' := []) [] rfl
    refine W.widen (k := 0) (n := 0) (by omega) (by omega) ?_
    exact W.zret (v := 0) hx hb hr rfl (fun t ht hW => ⟨⟨0, (), rfl, (by first | rfl | (simp [c_1, Int32.not_lt]; done) | (simp_all [Int32.not_lt]; done) | (rw [i_le] at *; simp_all)), by rw [ht]; exact hP9, va_K.moved hW.alike hK9, hD9⟩, hS.F ht⟩) hS.2.2 dX8_end_19
  refine lv_iload_n hx hb dX8_end_4 rfl (lv_at hl 1 rfl) ?_
  refine lv_aload_n hx hb dX8_end_5 rfl (lv_at hl 0 rfl) ?_
  refine va_get (D := D) (ci := 8) (v := .ref rd) (C := RX8) (T := TX8) (N := 15) hx hb hts hin8 hown hK hP 0 rfl rfl 5 (by decide) (hts (.fieldLink RX8 40 "HoneyHouse" "reader" "LHoneyHouse$RuleReader;") (List.mem_of_getElem? (i := 1) rfl)) (fun _ h9 => h9) f5 dX8_end_6 ?_
  refine va_get (D := D) (ci := 4) (v := .ref tp) (C := RX4) (T := TX4) (N := 8) hx hb hts hin4 hown hK hP 1 rfl rfl 0 (by decide) (hts (.fieldLink RX8 68 "HoneyHouse$RuleReader" "tape" "LHoneyHouse$Tape;") (List.mem_of_getElem? (i := 2) rfl)) (fun _ h9 => h9) r0 dX8_end_9 ?_
  refine va_get (D := D) (ci := 6) (v := .int 0) (C := RX6) (T := TX6) (N := 5) hx hb hts hin6 hown hK hP 2 rfl rfl 0 (by decide) (hts (.fieldLink RX8 72 "HoneyHouse$Tape" "length" "I") (List.mem_of_getElem? (i := 3) rfl)) (fun _ h9 => h9) rfl dX8_end_12 ?_
  refine lv_icmp_le (tgt := 20) hx hb dX8_end_15 (by decide) (fun c_2 => ?_) (fun c_2 => ?_)
  · refine lv_aload_n hx hb dX8_end_20 rfl (lv_at hl 0 rfl) ?_
    refine va_get (D := D) (ci := 8) (v := .ref rd) (C := RX8) (T := TX8) (N := 15) hx hb hts hin8 hown hK hP 0 rfl rfl 5 (by decide) (hts (.fieldLink RX8 40 "HoneyHouse" "reader" "LHoneyHouse$RuleReader;") (List.mem_of_getElem? (i := 1) rfl)) (fun _ h9 => h9) f5 dX8_end_21 ?_
    refine va_get (D := D) (ci := 4) (v := .ref tp) (C := RX4) (T := TX4) (N := 8) hx hb hts hin4 hown hK hP 1 rfl rfl 0 (by decide) (hts (.fieldLink RX8 68 "HoneyHouse$RuleReader" "tape" "LHoneyHouse$Tape;") (List.mem_of_getElem? (i := 2) rfl)) (fun _ h9 => h9) r0 dX8_end_24 ?_
    refine lv_iload_n hx hb dX8_end_27 rfl (lv_at hl 1 rfl) ?_
    refine va_put (D := D) (ci := 6) (v := .int a1) (ty := .int) (C := RX6) (T := TX6) (N := 5) hx hb hts hin6 tyX6 tyX6_ok nmX6 hown hK hP hD hS 2 rfl rfl 0 (by decide) (hts (.fieldLink RX8 72 "HoneyHouse$Tape" "length" "I") (List.mem_of_getElem? (i := 3) rfl)) (fun _ h9 => h9) rfl (tyX6_ok 0 (by decide)) rfl rfl (Nat.le_of_ble_eq_true rfl) dX8_end_28 (fun H locs hP hD hS => ?_)
    have hP : va_P D vwCl [(h0, .inr (8, fs)), (rd, .inr (4, rs)), (tp, .inr (6, [.int a1, .int 0, .int 0, .int 0, .ref bb]))] H := hP
    have hD : va_D A [(h0, .inr (8, fs)), (rd, .inr (4, rs)), (tp, .inr (6, [.int a1, .int 0, .int 0, .int 0, .ref bb]))] := hD
    refine lv_iconst (v := 1) hx hb dX8_end_31 (by decide) ?_
    have hP9 := hP.sub (ws' := []) [] rfl
    have hD9 := hD.sub (ws' := []) [] (by decide) rfl
    have hK9 := hK.sub (tys' := []) [] rfl
    refine W.widen (k := 0) (n := 0) (by omega) (by omega) ?_
    exact W.zret (v := 1) hx hb hr rfl (fun t ht hW => ⟨⟨1, (), rfl, (by first | rfl | (simp [c_1, c_2, Int32.not_lt]; done) | (simp_all [Int32.not_lt]; done) | (rw [i_le] at *; simp_all)), by rw [ht]; exact hP9, va_K.moved hW.alike hK9, hD9⟩, hS.F ht⟩) hS.2.2 dX8_end_32
  refine lv_iconst (v := 0) hx hb dX8_end_18 (by decide) ?_
  have hP9 := hP.sub (ws' := []) [] rfl
  have hD9 := hD.sub (ws' := []) [] (by decide) rfl
  have hK9 := hK.sub (tys' := []) [] rfl
  refine W.widen (k := 0) (n := 0) (by omega) (by omega) ?_
  exact W.zret (v := 0) hx hb hr rfl (fun t ht hW => ⟨⟨0, (), rfl, (by first | rfl | (simp [c_1, c_2, Int32.not_lt]; done) | (simp_all [Int32.not_lt]; done) | (rw [i_le] at *; simp_all)), by rw [ht]; exact hP9, va_K.moved hW.alike hK9, hD9⟩, hS.F ht⟩) hS.2.2 dX8_end_19
set_option maxHeartbeats 4000000 in
set_option maxRecDepth 100000 in
theorem q_X8_today (l : Launch) (D : va_G) (h0 la ta ba ra sn rd dr bl vd fb : Nat) (a1 : Int32) (sz : Nat)  : Met l yX8_today wsX8_today ({ frames := 0, cells := 0, slots := 0, locals := 0 }) (va_Pc [.ref h0, .int a1] (fun U => U.heap.size = sz ∧ va_P D vwCl [(h0, .inr (8, [.ref la, .ref ta, .ref ba, .ref ra, .ref sn, .ref rd, .ref dr, .ref bl, .ref vd, .ref fb, .int 0, .int 0, .int 0, .int 0, .int 0]))] U.heap ∧ va_K D vwCl [] U ∧ va_D (fun _ => True) [(h0, .inr (8, [.ref la, .ref ta, .ref ba, .ref ra, .ref sn, .ref rd, .ref dr, .ref bl, .ref vd, .ref fb, .int 0, .int 0, .int 0, .int 0, .int 0]))])) (va_Qi (fun (r : Int32) (_ : Unit) => r = if a1 < 0 then 0 else if 30000 < a1 then 0 else 1) (fun (_ : Unit) (t : State) => va_P D vwCl [] t.heap ∧ va_K D vwCl [] t ∧ va_D (va_A [(h0, .inr (8, [.ref la, .ref ta, .ref ba, .ref ra, .ref sn, .ref rd, .ref dr, .ref bl, .ref vd, .ref fb, .int 0, .int 0, .int 0, .int 0, .int 0]))] sz) []) (va_A [(h0, .inr (8, [.ref la, .ref ta, .ref ba, .ref ra, .ref sn, .ref rd, .ref dr, .ref bl, .ref vd, .ref fb, .int 0, .int 0, .int 0, .int 0, .int 0]))] sz)) 0 0 (va_A [(h0, .inr (8, [.ref la, .ref ta, .ref ba, .ref ra, .ref sn, .ref rd, .ref dr, .ref bl, .ref vd, .ref fb, .int 0, .int 0, .int 0, .int 0, .int 0]))] sz) := by
  refine Met.ofW (cc := cX8_today) (maxL := 2) (ret := (some .boolean)) (by decide) rfl ?_
  intro p e s m args below meth c s₁ B hml hv
  obtain ⟨rfl, hsz, hP, hK, hD0⟩ := hv
  have hx := B.exec
  have hb := B.bytes
  have hr := B.returns
  have hts := atoms_spec (ws := wsX8_today) B.pre
  have hown : s.vm.findClass RX8 = some m.cls := findClass_of_methodNamed B.named
  have hlocks := B.notSynchronized
  subst hsz
  have hD := hD0.self (sz := s.heap.size)
  generalize hAe : va_A [(h0, .inr (8, [.ref la, .ref ta, .ref ba, .ref ra, .ref sn, .ref rd, .ref dr, .ref bl, .ref vd, .ref fb, .int 0, .int 0, .int 0, .int 0, .int 0]))] s.heap.size = A at hD ⊢
  have hA : ∀ q : Nat, s.heap.size ≤ q → A q := fun q h => by rw [← hAe]; exact Or.inr h
  have hS : va_S A s.heap s.heap [] := va_S.rf
  have hP : va_P D vwCl [(h0, .inr (8, [.ref la, .ref ta, .ref ba, .ref ra, .ref sn, .ref rd, .ref dr, .ref bl, .ref vd, .ref fb, .int 0, .int 0, .int 0, .int 0, .int 0]))] s.heap := hP
  have hin8 : ∀ w ∈ u_ws RX8 TX8 15, w ∈ wsX8_today := (fun _ h9 => List.mem_cons_of_mem _ ((List.mem_append_right _ h9)))
  have hl := lv_entry ([.ref h0, .int a1]) (n := 2) (Nat.le_of_ble_eq_true rfl)
  rw [lg_entry_eq]
  generalize (lg_sl ([.ref h0, .int a1]) ++ List.replicate (2 - (lg_sl ([.ref h0, .int a1])).length) Slot.unset).toArray = ls at hl ⊢
  have hl : lv_has ls 2 [(0, .ref h0), (1, .int a1)] := hl
  refine lv_iload_n hx hb dX8_today_0 rfl (lv_at hl 1 rfl) ?_
  refine lv_aload_n hx hb dX8_today_1 rfl (lv_at hl 0 rfl) ?_
  refine va_get (D := D) (ci := 8) (v := .int 0) (C := RX8) (T := TX8) (N := 15) hx hb hts hin8 hown hK hP 0 rfl rfl 14 (by decide) (hts (.fieldLink RX8 82 "HoneyHouse" "dayNow" "I") (List.mem_of_getElem? (i := 1) rfl)) (fun _ h9 => h9) rfl dX8_today_2 ?_
  refine lv_icmp_lt (tgt := 15) hx hb dX8_today_5 (by decide) (fun c_1 => ?_) (fun c_1 => ?_)
  · refine lv_iconst (v := 0) hx hb dX8_today_15 (by decide) ?_
    have hP9 := hP.sub (ws' := []) [] rfl
    have hD9 := hD.sub (ws' := []) [] (by decide) rfl
    have hK9 := hK.sub (tys' := []) [] rfl
    refine W.widen (k := 0) (n := 0) (by omega) (by omega) ?_
    exact W.zret (v := 0) hx hb hr rfl (fun t ht hW => ⟨⟨0, (), rfl, (by first | (simp_all; done) | (rw [if_neg (by assumption), if_neg (i_le_n (by assumption))])), by rw [ht]; exact hP9, va_K.moved hW.alike hK9, hD9⟩, hS.F ht⟩) hS.2.2 dX8_today_16
  refine lv_iload_n hx hb dX8_today_8 rfl (lv_at hl 1 rfl) ?_
  refine lv_sipush (v := 30000) hx hb dX8_today_9 (by decide) ?_
  refine lv_icmp_le (tgt := 17) hx hb dX8_today_12 (by decide) (fun c_2 => ?_) (fun c_2 => ?_)
  · refine lv_aload_n hx hb dX8_today_17 rfl (lv_at hl 0 rfl) ?_
    refine lv_iload_n hx hb dX8_today_18 rfl (lv_at hl 1 rfl) ?_
    refine va_put (D := D) (ci := 8) (v := .int a1) (ty := .int) (C := RX8) (T := TX8) (N := 15) hx hb hts hin8 tyX8 tyX8_ok nmX8 hown hK hP hD hS 0 rfl rfl 14 (by decide) (hts (.fieldLink RX8 82 "HoneyHouse" "dayNow" "I") (List.mem_of_getElem? (i := 1) rfl)) (fun _ h9 => h9) rfl (tyX8_ok 14 (by decide)) rfl rfl (Nat.le_of_ble_eq_true rfl) dX8_today_19 (fun H locs hP hD hS => ?_)
    have hP : va_P D vwCl [(h0, .inr (8, [.ref la, .ref ta, .ref ba, .ref ra, .ref sn, .ref rd, .ref dr, .ref bl, .ref vd, .ref fb, .int 0, .int 0, .int 0, .int 0, .int a1]))] H := hP
    have hD : va_D A [(h0, .inr (8, [.ref la, .ref ta, .ref ba, .ref ra, .ref sn, .ref rd, .ref dr, .ref bl, .ref vd, .ref fb, .int 0, .int 0, .int 0, .int 0, .int a1]))] := hD
    refine lv_iconst (v := 1) hx hb dX8_today_22 (by decide) ?_
    have hP9 := hP.sub (ws' := []) [] rfl
    have hD9 := hD.sub (ws' := []) [] (by decide) rfl
    have hK9 := hK.sub (tys' := []) [] rfl
    refine W.widen (k := 0) (n := 0) (by omega) (by omega) ?_
    exact W.zret (v := 1) hx hb hr rfl (fun t ht hW => ⟨⟨1, (), rfl, (by first | (simp_all; done) | (rw [if_neg (by assumption), if_neg (i_le_n (by assumption))])), by rw [ht]; exact hP9, va_K.moved hW.alike hK9, hD9⟩, hS.F ht⟩) hS.2.2 dX8_today_23
  refine lv_iconst (v := 0) hx hb dX8_today_15 (by decide) ?_
  have hP9 := hP.sub (ws' := []) [] rfl
  have hD9 := hD.sub (ws' := []) [] (by decide) rfl
  have hK9 := hK.sub (tys' := []) [] rfl
  refine W.widen (k := 0) (n := 0) (by omega) (by omega) ?_
  exact W.zret (v := 0) hx hb hr rfl (fun t ht hW => ⟨⟨0, (), rfl, (by first | (simp_all; done) | (rw [if_neg (by assumption), if_neg (i_le_n (by assumption))])), by rw [ht]; exact hP9, va_K.moved hW.alike hK9, hD9⟩, hS.F ht⟩) hS.2.2 dX8_today_16
set_option maxHeartbeats 4000000 in
set_option maxRecDepth 100000 in
theorem q_X8_tank (l : Launch) (D : va_G) (h0 ta v gr : Nat) (fs : List Value) (c2 : ClassId) (g : Nat → Option Nat) (a1 a2 a3 : Int32) (sz : Nat) (f1 : fs[1]? = some (.ref ta)) (gv : ¬ a1 < 0 → ¬ 9 < a1 → g a1.toNatClampNeg = some v) : Met l yX8_tank wsX8_tank ({ frames := 2, cells := 0, slots := 0, locals := 43 }) (va_Pc [.ref h0, .int a1, .int a2, .int a3] (fun U => U.heap.size = sz ∧ va_P D vwCl [(h0, .inr (8, fs)), (ta, .inl (c2, 10, .inr (.inr (.inr (.inr g))))), (v, .inr (7, [.ref gr, .int 0, .int 0, .int 0, .int 0]))] U.heap ∧ va_K D vwCl [(c2, .object RX7)] U ∧ va_D (fun _ => True) [(h0, .inr (8, fs)), (ta, .inl (c2, 10, .inr (.inr (.inr (.inr g))))), (v, .inr (7, [.ref gr, .int 0, .int 0, .int 0, .int 0]))])) (va_Qi (fun (r : Int32) (_ : Unit) => r = if (a1 < 0 ∨ 9 < a1) ∨ (a2 < 0 ∨ 1000000 < a2) ∨ (a3 < 0 ∨ 10000 < a3) then 0 else 1) (fun (_ : Unit) (t : State) => va_P D vwCl [] t.heap ∧ va_K D vwCl [] t ∧ va_D (va_A [(h0, .inr (8, fs)), (ta, .inl (c2, 10, .inr (.inr (.inr (.inr g))))), (v, .inr (7, [.ref gr, .int 0, .int 0, .int 0, .int 0]))] sz) []) (va_A [(h0, .inr (8, fs)), (ta, .inl (c2, 10, .inr (.inr (.inr (.inr g))))), (v, .inr (7, [.ref gr, .int 0, .int 0, .int 0, .int 0]))] sz)) 0 0 (va_A [(h0, .inr (8, fs)), (ta, .inl (c2, 10, .inr (.inr (.inr (.inr g))))), (v, .inr (7, [.ref gr, .int 0, .int 0, .int 0, .int 0]))] sz) := by
  refine Met.ofW (cc := cX8_tank) (maxL := 5) (ret := (some .boolean)) (by decide) rfl ?_
  intro p e s m args below meth c s₁ B hml hv
  obtain ⟨rfl, hsz, hP, hK, hD0⟩ := hv
  have hx := B.exec
  have hb := B.bytes
  have hr := B.returns
  have hts := atoms_spec (ws := wsX8_tank) B.pre
  have hown : s.vm.findClass RX8 = some m.cls := findClass_of_methodNamed B.named
  have hlocks := B.notSynchronized
  subst hsz
  have hD := hD0.self (sz := s.heap.size)
  generalize hAe : va_A [(h0, .inr (8, fs)), (ta, .inl (c2, 10, .inr (.inr (.inr (.inr g))))), (v, .inr (7, [.ref gr, .int 0, .int 0, .int 0, .int 0]))] s.heap.size = A at hD ⊢
  have hA : ∀ q : Nat, s.heap.size ≤ q → A q := fun q h => by rw [← hAe]; exact Or.inr h
  have hS : va_S A s.heap s.heap [] := va_S.rf
  have hP : va_P D vwCl [(h0, .inr (8, fs)), (ta, .inl (c2, 10, .inr (.inr (.inr (.inr g))))), (v, .inr (7, [.ref gr, .int 0, .int 0, .int 0, .int 0]))] s.heap := hP
  have hin7 : ∀ w ∈ u_ws RX7 TX7 5, w ∈ wsX8_tank := (fun _ h9 => List.mem_cons_of_mem _ (List.mem_append_left _ ((List.mem_append_right _ h9))))
  have hl := lv_entry ([.ref h0, .int a1, .int a2, .int a3]) (n := 5) (Nat.le_of_ble_eq_true rfl)
  rw [lg_entry_eq]
  generalize (lg_sl ([.ref h0, .int a1, .int a2, .int a3]) ++ List.replicate (5 - (lg_sl ([.ref h0, .int a1, .int a2, .int a3])).length) Slot.unset).toArray = ls at hl ⊢
  have hl : lv_has ls 5 [(0, .ref h0), (1, .int a1), (2, .int a2), (3, .int a3)] := hl
  refine lv_aload_n hx hb dX8_tank_0 rfl (lv_at hl 0 rfl) ?_
  refine lv_iload_n hx hb dX8_tank_1 rfl (lv_at hl 1 rfl) ?_
  refine va_csq (W.runV (As := [.int a1]) (rest := []) ⟨hx, hb, hml, hown, hts⟩ (s_X8_tankAt l D [(h0, .inr (8, fs)), (ta, .inl (c2, 10, .inr (.inr (.inr (.inr g))))), (v, .inr (7, [.ref gr, .int 0, .int 0, .int 0, .int 0]))] [(c2, .object RX7)] h0 0 _ ta 1 c2 g 0 a1 rfl f1 rfl rfl) (cwV 1 hts gX8_tank_X8_tankAt rfl rfl rfl (by decide +kernel) ⟨Nat.le_of_ble_eq_true rfl, Nat.le_of_ble_eq_true rfl⟩) ⟨fun a U g mk q => ⟨q.1, q.2.1, va_K.moved (u := U) (U := U.calling g mk a) (Vm.Alike.refl U.vm) q.2.2⟩, va_recv hK hP (ci := 8) (q0 := 0) rfl rfl, fun U hU hW => ⟨rfl, by rw [hU]; exact hP, va_K.moved hW.alike hK⟩⟩ rfl rfl hl.1 rfl (lv_room (Nat.le_of_ble_eq_true rfl)) dX8_tank_2 ⟨Nat.le_of_ble_eq_true rfl, Nat.le_of_ble_eq_true rfl⟩) (fun r_1 k_2 => ?_)
  rcases k_2 with ⟨rfl, a_3o⟩ | ⟨a_3, b_4, k_2⟩
  · refine tp_v (y := .null) rfl ?_
    refine lv_astoreN (lv' := [(4, .null), (0, .ref h0), (1, .int a1), (2, .int a2), (3, .int a3)]) hx hb dX8_tank_5 hl (by decide) rfl (fun ls hl => ?_)
    refine lv_aloadN hx hb dX8_tank_7 (lv_at hl 0 rfl) ?_
    refine lv_ifnullN (tgt := 33) hx hb dX8_tank_9 (by decide) ?_
    refine lv_iconst (v := 0) hx hb dX8_tank_33 (by decide) ?_
    have hP9 := hP.sub (ws' := []) [] rfl
    have hD9 := hD.sub (ws' := []) [] (by decide) rfl
    have hK9 := hK.sub (tys' := []) [] rfl
    refine W.widen (k := 0) (n := 0) (by omega) (by omega) ?_
    exact W.zret (v := 0) hx hb hr rfl (fun t ht hW => ⟨⟨0, (), rfl, (by rcases a_3o with a_3o | a_3o <;> simp_all), by rw [ht]; exact hP9, va_K.moved hW.alike hK9, hD9⟩, hS.F ht⟩) hS.2.2 dX8_tank_34
  rw [gv a_3 b_4] at k_2
  subst k_2
  refine tp_v (y := .ref v) rfl ?_
  refine lv_astore (lv' := [(4, .ref v), (0, .ref h0), (1, .int a1), (2, .int a2), (3, .int a3)]) hx hb dX8_tank_5 hl (by decide) rfl (fun ls hl => ?_)
  refine lv_aload hx hb dX8_tank_7 (lv_at hl 0 rfl) ?_
  refine lv_ifnull hx hb dX8_tank_9 ?_
  refine lv_iload_n hx hb dX8_tank_12 rfl (lv_at hl 3 rfl) ?_
  refine lv_iconst (v := 0) hx hb dX8_tank_13 (by decide) ?_
  refine lv_ldc hx hb hown (hts (.constant RX8 143 (1000000)) (List.mem_of_getElem? (i := 1) rfl)) dX8_tank_14 ?_
  refine vp_callSi (W.runS (As := [.int a2, .int 0, .int 1000000]) (rest := []) ⟨hx, hb, hml, hown, hts⟩ (s_X8_isIn l a2 0 1000000) (va_cwS 3 hts gX8_tank_X8_isIn rfl rfl rfl (by decide +kernel) ⟨Nat.le_of_ble_eq_true rfl, Nat.le_of_ble_eq_true rfl⟩) ⟨fun a U g mk q => q, fun U hU hW => ⟨rfl, trivial⟩⟩ rfl rfl hl.1 rfl (lv_room (Nat.le_of_ble_eq_true rfl)) dX8_tank_16 ⟨Nat.le_of_ble_eq_true rfl, Nat.le_of_ble_eq_true rfl⟩) (fun r_5 k_6 => ?_)
  rcases k_6 with ⟨rfl, a_7o⟩ | ⟨rfl, a_7, b_8⟩
  · refine lv_if_eq (tgt := 33) hx hb dX8_tank_19 (by decide) (fun c_9 => ?_) (fun c_9 => absurd (by decide) c_9)
    refine lv_iconst (v := 0) hx hb dX8_tank_33 (by decide) ?_
    have hP9 := hP.sub (ws' := []) [] rfl
    have hD9 := hD.sub (ws' := []) [] (by decide) rfl
    have hK9 := hK.sub (tys' := []) [] rfl
    refine W.widen (k := 0) (n := 0) (by omega) (by omega) ?_
    exact W.zret (v := 0) hx hb hr rfl (fun t ht hW => ⟨⟨0, (), rfl, (by rcases a_7o with a_7o | a_7o <;> simp_all), by rw [ht]; exact hP9, va_K.moved hW.alike hK9, hD9⟩, hS.F ht⟩) hS.2.2 dX8_tank_34
  refine lv_if_eq (tgt := 33) hx hb dX8_tank_19 (by decide) (fun c_10 => absurd c_10 (by decide)) (fun c_10 => ?_)
  refine lv_iload_n hx hb dX8_tank_22 rfl (lv_at hl 4 rfl) ?_
  refine lv_iconst (v := 0) hx hb dX8_tank_23 (by decide) ?_
  refine lv_sipush (v := 10000) hx hb dX8_tank_24 (by decide) ?_
  refine vp_callSi (W.runS (As := [.int a3, .int 0, .int 10000]) (rest := []) ⟨hx, hb, hml, hown, hts⟩ (s_X8_isIn l a3 0 10000) (va_cwS 3 hts gX8_tank_X8_isIn rfl rfl rfl (by decide +kernel) ⟨Nat.le_of_ble_eq_true rfl, Nat.le_of_ble_eq_true rfl⟩) ⟨fun a U g mk q => q, fun U hU hW => ⟨rfl, trivial⟩⟩ rfl rfl hl.1 rfl (lv_room (Nat.le_of_ble_eq_true rfl)) dX8_tank_27 ⟨Nat.le_of_ble_eq_true rfl, Nat.le_of_ble_eq_true rfl⟩) (fun r_11 k_12 => ?_)
  rcases k_12 with ⟨rfl, a_13o⟩ | ⟨rfl, a_13, b_14⟩
  · refine lv_if_ne (tgt := 35) hx hb dX8_tank_30 (by decide) (fun c_15 => absurd (by decide) c_15) (fun c_15 => ?_)
    refine lv_iconst (v := 0) hx hb dX8_tank_33 (by decide) ?_
    have hP9 := hP.sub (ws' := []) [] rfl
    have hD9 := hD.sub (ws' := []) [] (by decide) rfl
    have hK9 := hK.sub (tys' := []) [] rfl
    refine W.widen (k := 0) (n := 0) (by omega) (by omega) ?_
    exact W.zret (v := 0) hx hb hr rfl (fun t ht hW => ⟨⟨0, (), rfl, (by rcases a_13o with a_13o | a_13o <;> simp_all), by rw [ht]; exact hP9, va_K.moved hW.alike hK9, hD9⟩, hS.F ht⟩) hS.2.2 dX8_tank_34
  refine lv_if_ne (tgt := 35) hx hb dX8_tank_30 (by decide) (fun c_16 => ?_) (fun c_16 => absurd c_16 (by decide))
  refine lv_aload hx hb dX8_tank_35 (lv_at hl 0 rfl) ?_
  refine va_get (D := D) (ci := 7) (v := .int 0) (C := RX7) (T := TX7) (N := 5) hx hb hts hin7 hown hK hP 2 rfl rfl 1 (by decide) (hts (.fieldLink RX8 144 "HoneyHouse$Vessel" "total" "I") (List.mem_of_getElem? (i := 2) rfl)) (fun _ h9 => h9) rfl dX8_tank_37 ?_
  refine lv_iload_n hx hb dX8_tank_40 rfl (lv_at hl 3 rfl) ?_
  refine lv_icmp_le (tgt := 46) hx hb dX8_tank_41 (by decide) (fun c_17 => ?_) (fun c_17 => absurd (i_nlt a_7) c_17)
  refine lv_aload hx hb dX8_tank_46 (lv_at hl 0 rfl) ?_
  refine lv_iload_n hx hb dX8_tank_48 rfl (lv_at hl 3 rfl) ?_
  refine va_put (D := D) (ci := 7) (v := .int a2) (ty := .int) (C := RX7) (T := TX7) (N := 5) hx hb hts hin7 tyX7 tyX7_ok nmX7 hown hK hP hD hS 2 rfl rfl 3 (by decide) (hts (.fieldLink RX8 147 "HoneyHouse$Vessel" "roomOrTank" "I") (List.mem_of_getElem? (i := 3) rfl)) (fun _ h9 => h9) rfl (tyX7_ok 3 (by decide)) rfl rfl (Nat.le_of_ble_eq_true rfl) dX8_tank_49 (fun H locs hP hD hS => ?_)
  have hP : va_P D vwCl [(h0, .inr (8, fs)), (ta, .inl (c2, 10, .inr (.inr (.inr (.inr g))))), (v, .inr (7, [.ref gr, .int 0, .int 0, .int a2, .int 0]))] H := hP
  have hD : va_D A [(h0, .inr (8, fs)), (ta, .inl (c2, 10, .inr (.inr (.inr (.inr g))))), (v, .inr (7, [.ref gr, .int 0, .int 0, .int a2, .int 0]))] := hD
  refine lv_aload hx hb dX8_tank_52 (lv_at hl 0 rfl) ?_
  refine lv_iload_n hx hb dX8_tank_54 rfl (lv_at hl 4 rfl) ?_
  refine va_put (D := D) (ci := 7) (v := .int a3) (ty := .int) (C := RX7) (T := TX7) (N := 5) hx hb hts hin7 tyX7 tyX7_ok nmX7 hown hK hP hD hS 2 rfl rfl 4 (by decide) (hts (.fieldLink RX8 150 "HoneyHouse$Vessel" "priceOrDay" "I") (List.mem_of_getElem? (i := 4) rfl)) (fun _ h9 => h9) rfl (tyX7_ok 4 (by decide)) rfl rfl (Nat.le_of_ble_eq_true rfl) dX8_tank_55 (fun H locs hP hD hS => ?_)
  have hP : va_P D vwCl [(h0, .inr (8, fs)), (ta, .inl (c2, 10, .inr (.inr (.inr (.inr g))))), (v, .inr (7, [.ref gr, .int 0, .int 0, .int a2, .int a3]))] H := hP
  have hD : va_D A [(h0, .inr (8, fs)), (ta, .inl (c2, 10, .inr (.inr (.inr (.inr g))))), (v, .inr (7, [.ref gr, .int 0, .int 0, .int a2, .int a3]))] := hD
  refine lv_iconst (v := 1) hx hb dX8_tank_58 (by decide) ?_
  have hP9 := hP.sub (ws' := []) [] rfl
  have hD9 := hD.sub (ws' := []) [] (by decide) rfl
  have hK9 := hK.sub (tys' := []) [] rfl
  refine W.widen (k := 0) (n := 0) (by omega) (by omega) ?_
  exact W.zret (v := 1) hx hb hr rfl (fun t ht hW => ⟨⟨1, (), rfl, (by first | rfl | (simp_all; done) | simp [a_3, b_4, a_7, b_8, c_10, a_13, b_14, c_16, c_17]), by rw [ht]; exact hP9, va_K.moved hW.alike hK9, hD9⟩, hS.F ht⟩) hS.2.2 dX8_tank_59
set_option maxHeartbeats 4000000 in
set_option maxRecDepth 100000 in
theorem q_X8_step (l : Launch) (D : va_G) (h0 sn sw sp : Nat) (fs : List Value) (c1 c2 : ClassId) (a1 a2 a3 : Int32) (sz : Nat) (f4 : fs[4]? = some (.ref sn)) : Met l yX8_step wsX8_step ({ frames := 1, cells := 0, slots := 0, locals := 22 }) (va_Pc [.ref h0, .int a1, .int a2, .int a3] (fun U => U.heap.size = sz ∧ va_P D vwCl [(h0, .inr (8, fs)), (sn, .inr (5, [.ref sw, .ref sp])), (sw, .inl (c1, 4, .inl (fun _ => 0))), (sp, .inl (c2, 4, .inl (fun _ => 0)))] U.heap ∧ va_K D vwCl [(c1, .int), (c2, .int)] U ∧ va_D (fun _ => True) [(h0, .inr (8, fs)), (sn, .inr (5, [.ref sw, .ref sp])), (sw, .inl (c1, 4, .inl (fun _ => 0))), (sp, .inl (c2, 4, .inl (fun _ => 0)))])) (va_Qi (fun (r : Int32) (_ : Unit) => r = if (a1 < 0 ∨ 3 < a1) ∨ (a2 < 0 ∨ 300 < a2) ∨ (a3 < 0 ∨ 100000 < a3) then 0 else 1) (fun (_ : Unit) (t : State) => va_P D vwCl [] t.heap ∧ va_K D vwCl [] t ∧ va_D (va_A [(h0, .inr (8, fs)), (sn, .inr (5, [.ref sw, .ref sp])), (sw, .inl (c1, 4, .inl (fun _ => 0))), (sp, .inl (c2, 4, .inl (fun _ => 0)))] sz) []) (va_A [(h0, .inr (8, fs)), (sn, .inr (5, [.ref sw, .ref sp])), (sw, .inl (c1, 4, .inl (fun _ => 0))), (sp, .inl (c2, 4, .inl (fun _ => 0)))] sz)) 0 0 (va_A [(h0, .inr (8, fs)), (sn, .inr (5, [.ref sw, .ref sp])), (sw, .inl (c1, 4, .inl (fun _ => 0))), (sp, .inl (c2, 4, .inl (fun _ => 0)))] sz) := by
  refine Met.ofW (cc := cX8_step) (maxL := 4) (ret := (some .boolean)) (by decide) rfl ?_
  intro p e s m args below meth c s₁ B hml hv
  obtain ⟨rfl, hsz, hP, hK, hD0⟩ := hv
  have hx := B.exec
  have hb := B.bytes
  have hr := B.returns
  have hts := atoms_spec (ws := wsX8_step) B.pre
  have hown : s.vm.findClass RX8 = some m.cls := findClass_of_methodNamed B.named
  have hlocks := B.notSynchronized
  subst hsz
  have hD := hD0.self (sz := s.heap.size)
  generalize hAe : va_A [(h0, .inr (8, fs)), (sn, .inr (5, [.ref sw, .ref sp])), (sw, .inl (c1, 4, .inl (fun _ => 0))), (sp, .inl (c2, 4, .inl (fun _ => 0)))] s.heap.size = A at hD ⊢
  have hA : ∀ q : Nat, s.heap.size ≤ q → A q := fun q h => by rw [← hAe]; exact Or.inr h
  have hS : va_S A s.heap s.heap [] := va_S.rf
  have hP : va_P D vwCl [(h0, .inr (8, fs)), (sn, .inr (5, [.ref sw, .ref sp])), (sw, .inl (c1, 4, .inl (fun _ => 0))), (sp, .inl (c2, 4, .inl (fun _ => 0)))] s.heap := hP
  have hin5 : ∀ w ∈ u_ws RX5 TX5 2, w ∈ wsX8_step := (fun _ h9 => List.mem_cons_of_mem _ ((List.mem_append_right _ h9)))
  have hin8 : ∀ w ∈ u_ws RX8 TX8 15, w ∈ wsX8_step := (fun _ h9 => List.mem_cons_of_mem _ (List.mem_append_left _ ((List.mem_append_right _ h9))))
  have hl := lv_entry ([.ref h0, .int a1, .int a2, .int a3]) (n := 4) (Nat.le_of_ble_eq_true rfl)
  rw [lg_entry_eq]
  generalize (lg_sl ([.ref h0, .int a1, .int a2, .int a3]) ++ List.replicate (4 - (lg_sl ([.ref h0, .int a1, .int a2, .int a3])).length) Slot.unset).toArray = ls at hl ⊢
  have hl : lv_has ls 4 [(0, .ref h0), (1, .int a1), (2, .int a2), (3, .int a3)] := hl
  refine lv_iload_n hx hb dX8_step_0 rfl (lv_at hl 1 rfl) ?_
  refine lv_iconst (v := 0) hx hb dX8_step_1 (by decide) ?_
  refine lv_iconst (v := 3) hx hb dX8_step_2 (by decide) ?_
  refine vp_callSi (W.runS (As := [.int a1, .int 0, .int 3]) (rest := []) ⟨hx, hb, hml, hown, hts⟩ (s_X8_isIn l a1 0 3) (va_cwS 3 hts gX8_step_X8_isIn rfl rfl rfl (by decide +kernel) ⟨Nat.le_of_ble_eq_true rfl, Nat.le_of_ble_eq_true rfl⟩) ⟨fun a U g mk q => q, fun U hU hW => ⟨rfl, trivial⟩⟩ rfl rfl hl.1 rfl (lv_room (Nat.le_of_ble_eq_true rfl)) dX8_step_3 ⟨Nat.le_of_ble_eq_true rfl, Nat.le_of_ble_eq_true rfl⟩) (fun r_1 k_2 => ?_)
  rcases k_2 with ⟨rfl, a_3o⟩ | ⟨rfl, a_3, b_4⟩
  · refine lv_if_eq (tgt := 30) hx hb dX8_step_6 (by decide) (fun c_5 => ?_) (fun c_5 => absurd (by decide) c_5)
    refine lv_iconst (v := 0) hx hb dX8_step_30 (by decide) ?_
    have hP9 := hP.sub (ws' := []) [] rfl
    have hD9 := hD.sub (ws' := []) [] (by decide) rfl
    have hK9 := hK.sub (tys' := []) [] rfl
    refine W.widen (k := 0) (n := 0) (by omega) (by omega) ?_
    exact W.zret (v := 0) hx hb hr rfl (fun t ht hW => ⟨⟨0, (), rfl, (by rcases a_3o with a_3o | a_3o <;> simp_all), by rw [ht]; exact hP9, va_K.moved hW.alike hK9, hD9⟩, hS.F ht⟩) hS.2.2 dX8_step_31
  refine lv_if_eq (tgt := 30) hx hb dX8_step_6 (by decide) (fun c_6 => absurd c_6 (by decide)) (fun c_6 => ?_)
  refine lv_iload_n hx hb dX8_step_9 rfl (lv_at hl 2 rfl) ?_
  refine lv_iconst (v := 0) hx hb dX8_step_10 (by decide) ?_
  refine lv_sipush (v := 300) hx hb dX8_step_11 (by decide) ?_
  refine vp_callSi (W.runS (As := [.int a2, .int 0, .int 300]) (rest := []) ⟨hx, hb, hml, hown, hts⟩ (s_X8_isIn l a2 0 300) (va_cwS 3 hts gX8_step_X8_isIn rfl rfl rfl (by decide +kernel) ⟨Nat.le_of_ble_eq_true rfl, Nat.le_of_ble_eq_true rfl⟩) ⟨fun a U g mk q => q, fun U hU hW => ⟨rfl, trivial⟩⟩ rfl rfl hl.1 rfl (lv_room (Nat.le_of_ble_eq_true rfl)) dX8_step_14 ⟨Nat.le_of_ble_eq_true rfl, Nat.le_of_ble_eq_true rfl⟩) (fun r_7 k_8 => ?_)
  rcases k_8 with ⟨rfl, a_9o⟩ | ⟨rfl, a_9, b_10⟩
  · refine lv_if_eq (tgt := 30) hx hb dX8_step_17 (by decide) (fun c_11 => ?_) (fun c_11 => absurd (by decide) c_11)
    refine lv_iconst (v := 0) hx hb dX8_step_30 (by decide) ?_
    have hP9 := hP.sub (ws' := []) [] rfl
    have hD9 := hD.sub (ws' := []) [] (by decide) rfl
    have hK9 := hK.sub (tys' := []) [] rfl
    refine W.widen (k := 0) (n := 0) (by omega) (by omega) ?_
    exact W.zret (v := 0) hx hb hr rfl (fun t ht hW => ⟨⟨0, (), rfl, (by rcases a_9o with a_9o | a_9o <;> simp_all), by rw [ht]; exact hP9, va_K.moved hW.alike hK9, hD9⟩, hS.F ht⟩) hS.2.2 dX8_step_31
  refine lv_if_eq (tgt := 30) hx hb dX8_step_17 (by decide) (fun c_12 => absurd c_12 (by decide)) (fun c_12 => ?_)
  refine lv_iload_n hx hb dX8_step_20 rfl (lv_at hl 3 rfl) ?_
  refine lv_iconst (v := 0) hx hb dX8_step_21 (by decide) ?_
  refine lv_ldc hx hb hown (hts (.constant RX8 239 (100000)) (List.mem_of_getElem? (i := 1) rfl)) dX8_step_22 ?_
  refine vp_callSi (W.runS (As := [.int a3, .int 0, .int 100000]) (rest := []) ⟨hx, hb, hml, hown, hts⟩ (s_X8_isIn l a3 0 100000) (va_cwS 3 hts gX8_step_X8_isIn rfl rfl rfl (by decide +kernel) ⟨Nat.le_of_ble_eq_true rfl, Nat.le_of_ble_eq_true rfl⟩) ⟨fun a U g mk q => q, fun U hU hW => ⟨rfl, trivial⟩⟩ rfl rfl hl.1 rfl (lv_room (Nat.le_of_ble_eq_true rfl)) dX8_step_24 ⟨Nat.le_of_ble_eq_true rfl, Nat.le_of_ble_eq_true rfl⟩) (fun r_13 k_14 => ?_)
  rcases k_14 with ⟨rfl, a_15o⟩ | ⟨rfl, a_15, b_16⟩
  · refine lv_if_ne (tgt := 32) hx hb dX8_step_27 (by decide) (fun c_17 => absurd (by decide) c_17) (fun c_17 => ?_)
    refine lv_iconst (v := 0) hx hb dX8_step_30 (by decide) ?_
    have hP9 := hP.sub (ws' := []) [] rfl
    have hD9 := hD.sub (ws' := []) [] (by decide) rfl
    have hK9 := hK.sub (tys' := []) [] rfl
    refine W.widen (k := 0) (n := 0) (by omega) (by omega) ?_
    exact W.zret (v := 0) hx hb hr rfl (fun t ht hW => ⟨⟨0, (), rfl, (by rcases a_15o with a_15o | a_15o <;> simp_all), by rw [ht]; exact hP9, va_K.moved hW.alike hK9, hD9⟩, hS.F ht⟩) hS.2.2 dX8_step_31
  refine lv_if_ne (tgt := 32) hx hb dX8_step_27 (by decide) (fun c_18 => ?_) (fun c_18 => absurd c_18 (by decide))
  refine lv_aload_n hx hb dX8_step_32 rfl (lv_at hl 0 rfl) ?_
  refine va_get (D := D) (ci := 8) (v := .ref sn) (C := RX8) (T := TX8) (N := 15) hx hb hts hin8 hown hK hP 0 rfl rfl 4 (by decide) (hts (.fieldLink RX8 33 "HoneyHouse" "stepsNow" "LHoneyHouse$Steps;") (List.mem_of_getElem? (i := 2) rfl)) (fun _ h9 => h9) f4 dX8_step_33 ?_
  refine va_get (D := D) (ci := 5) (v := .ref sw) (C := RX5) (T := TX5) (N := 2) hx hb hts hin5 hown hK hP 1 rfl rfl 0 (by decide) (hts (.fieldLink RX8 240 "HoneyHouse$Steps" "waters" "[I") (List.mem_of_getElem? (i := 3) rfl)) (fun _ h9 => h9) rfl dX8_step_36 ?_
  refine lv_iload_n hx hb dX8_step_39 rfl (lv_at hl 1 rfl) ?_
  refine lv_iload_n hx hb dX8_step_40 rfl (lv_at hl 2 rfl) ?_
  refine va_iast (f := fun _ => 0) (n := 4) hx hb hK hP hD hS 2 0 rfl rfl (i_in a_3 b_4 (by decide)) dX8_step_41 (fun H locs hP hD hS => ?_)
  have hP : va_P D vwCl [(h0, .inr (8, fs)), (sn, .inr (5, [.ref sw, .ref sp])), (sw, .inl (c1, 4, .inl (upd (fun _ => 0) a1.toNatClampNeg a2))), (sp, .inl (c2, 4, .inl (fun _ => 0)))] H := hP
  have hD : va_D A [(h0, .inr (8, fs)), (sn, .inr (5, [.ref sw, .ref sp])), (sw, .inl (c1, 4, .inl (upd (fun _ => 0) a1.toNatClampNeg a2))), (sp, .inl (c2, 4, .inl (fun _ => 0)))] := hD
  refine lv_aload_n hx hb dX8_step_42 rfl (lv_at hl 0 rfl) ?_
  refine va_get (D := D) (ci := 8) (v := .ref sn) (C := RX8) (T := TX8) (N := 15) hx hb hts hin8 hown hK hP 0 rfl rfl 4 (by decide) (hts (.fieldLink RX8 33 "HoneyHouse" "stepsNow" "LHoneyHouse$Steps;") (List.mem_of_getElem? (i := 2) rfl)) (fun _ h9 => h9) f4 dX8_step_43 ?_
  refine va_get (D := D) (ci := 5) (v := .ref sp) (C := RX5) (T := TX5) (N := 2) hx hb hts hin5 hown hK hP 1 rfl rfl 1 (by decide) (hts (.fieldLink RX8 243 "HoneyHouse$Steps" "prices" "[I") (List.mem_of_getElem? (i := 4) rfl)) (fun _ h9 => h9) rfl dX8_step_46 ?_
  refine lv_iload_n hx hb dX8_step_49 rfl (lv_at hl 1 rfl) ?_
  refine lv_iload_n hx hb dX8_step_50 rfl (lv_at hl 3 rfl) ?_
  refine va_iast (f := fun _ => 0) (n := 4) hx hb hK hP hD hS 3 1 rfl rfl (i_in a_3 b_4 (by decide)) dX8_step_51 (fun H locs hP hD hS => ?_)
  have hP : va_P D vwCl [(h0, .inr (8, fs)), (sn, .inr (5, [.ref sw, .ref sp])), (sw, .inl (c1, 4, .inl (upd (fun _ => 0) a1.toNatClampNeg a2))), (sp, .inl (c2, 4, .inl (upd (fun _ => 0) a1.toNatClampNeg a3)))] H := hP
  have hD : va_D A [(h0, .inr (8, fs)), (sn, .inr (5, [.ref sw, .ref sp])), (sw, .inl (c1, 4, .inl (upd (fun _ => 0) a1.toNatClampNeg a2))), (sp, .inl (c2, 4, .inl (upd (fun _ => 0) a1.toNatClampNeg a3)))] := hD
  refine lv_iconst (v := 1) hx hb dX8_step_52 (by decide) ?_
  have hP9 := hP.sub (ws' := []) [] rfl
  have hD9 := hD.sub (ws' := []) [] (by decide) rfl
  have hK9 := hK.sub (tys' := []) [] rfl
  refine W.widen (k := 0) (n := 0) (by omega) (by omega) ?_
  exact W.zret (v := 1) hx hb hr rfl (fun t ht hW => ⟨⟨1, (), rfl, (by first | rfl | (simp_all; done) | simp [a_3, b_4, c_6, a_9, b_10, c_12, a_15, b_16, c_18]), by rw [ht]; exact hP9, va_K.moved hW.alike hK9, hD9⟩, hS.F ht⟩) hS.2.2 dX8_step_53
