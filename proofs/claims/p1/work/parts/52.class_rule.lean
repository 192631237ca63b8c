theorem dX6_byteAt_0 : decode cX6_byteAt 0 = .ok (.iload_n 1, 1) := by decide +kernel
theorem dX6_byteAt_1 : decode cX6_byteAt 1 = .ok (.ifCond .lt 29, 3) := by decide +kernel
theorem dX6_byteAt_4 : decode cX6_byteAt 4 = .ok (.iload_n 1, 1) := by decide +kernel
theorem dX6_byteAt_5 : decode cX6_byteAt 5 = .ok (.aload_n 0, 1) := by decide +kernel
theorem dX6_byteAt_6 : decode cX6_byteAt 6 = .ok (.getfield 15, 3) := by decide +kernel
theorem dX6_byteAt_9 : decode cX6_byteAt 9 = .ok (.if_icmp .ge 21, 3) := by decide +kernel
theorem dX6_byteAt_30 : decode cX6_byteAt 30 = .ok (.iconst (-1), 1) := by decide +kernel
theorem dX6_byteAt_31 : decode cX6_byteAt 31 = .ok (.ireturn, 1) := by decide +kernel
theorem dX6_kindOf_0 : decode cX6_kindOf 0 = .ok (.iload_n 0, 1) := by decide +kernel
theorem dX6_kindOf_1 : decode cX6_kindOf 1 = .ok (.bipush 97, 2) := by decide +kernel
theorem dX6_kindOf_3 : decode cX6_kindOf 3 = .ok (.if_icmp .lt 11, 3) := by decide +kernel
theorem dX6_kindOf_14 : decode cX6_kindOf 14 = .ok (.iload_n 0, 1) := by decide +kernel
theorem dX6_kindOf_15 : decode cX6_kindOf 15 = .ok (.bipush 48, 2) := by decide +kernel
theorem dX6_kindOf_17 : decode cX6_kindOf 17 = .ok (.if_icmp .lt 11, 3) := by decide +kernel
theorem dX6_kindOf_28 : decode cX6_kindOf 28 = .ok (.iload_n 0, 1) := by decide +kernel
theorem dX6_kindOf_29 : decode cX6_kindOf 29 = .ok (.bipush 10, 2) := by decide +kernel
theorem dX6_kindOf_31 : decode cX6_kindOf 31 = .ok (.if_icmp .eq 9, 3) := by decide +kernel
theorem dX6_kindOf_34 : decode cX6_kindOf 34 = .ok (.iload_n 0, 1) := by decide +kernel
theorem dX6_kindOf_35 : decode cX6_kindOf 35 = .ok (.bipush 32, 2) := by decide +kernel
theorem dX6_kindOf_37 : decode cX6_kindOf 37 = .ok (.if_icmp .ne 5, 3) := by decide +kernel
theorem dX6_kindOf_42 : decode cX6_kindOf 42 = .ok (.iload_n 0, 1) := by decide +kernel
theorem dX6_kindOf_43 : decode cX6_kindOf 43 = .ok (.iconst (-1), 1) := by decide +kernel
theorem dX6_kindOf_44 : decode cX6_kindOf 44 = .ok (.if_icmp .ne 7, 3) := by decide +kernel
theorem dX6_kindOf_47 : decode cX6_kindOf 47 = .ok (.iconst 0, 1) := by decide +kernel
theorem dX6_kindOf_48 : decode cX6_kindOf 48 = .ok (.goto 4, 3) := by decide +kernel
theorem dX6_kindOf_52 : decode cX6_kindOf 52 = .ok (.ireturn, 1) := by decide +kernel
theorem dX6_advance_0 : decode cX6_advance 0 = .ok (.aload_n 0, 1) := by decide +kernel
theorem dX6_advance_1 : decode cX6_advance 1 = .ok (.getfield 19, 3) := by decide +kernel
theorem dX6_advance_4 : decode cX6_advance 4 = .ok (.istore_n 1, 1) := by decide +kernel
theorem dX6_advance_5 : decode cX6_advance 5 = .ok (.iload_n 1, 1) := by decide +kernel
theorem dX6_advance_6 : decode cX6_advance 6 = .ok (.aload_n 0, 1) := by decide +kernel
theorem dX6_advance_7 : decode cX6_advance 7 = .ok (.getfield 15, 3) := by decide +kernel
theorem dX6_advance_10 : decode cX6_advance 10 = .ok (.if_icmp .ge 21, 3) := by decide +kernel
theorem dX6_advance_31 : decode cX6_advance 31 = .ok (.aload_n 0, 1) := by decide +kernel
theorem dX6_advance_32 : decode cX6_advance 32 = .ok (.iload_n 1, 1) := by decide +kernel
theorem dX6_advance_33 : decode cX6_advance 33 = .ok (.putfield 32, 3) := by decide +kernel
theorem dX6_advance_36 : decode cX6_advance 36 = .ok (.aload_n 0, 1) := by decide +kernel
theorem dX6_advance_37 : decode cX6_advance 37 = .ok (.aload_n 0, 1) := by decide +kernel
theorem dX6_advance_38 : decode cX6_advance 38 = .ok (.iload_n 1, 1) := by decide +kernel
theorem dX6_advance_39 : decode cX6_advance 39 = .ok (.invokevirtual 25, 3) := by decide +kernel
theorem dX6_advance_42 : decode cX6_advance 42 = .ok (.invokestatic 29, 3) := by decide +kernel
theorem dX6_advance_45 : decode cX6_advance 45 = .ok (.putfield 35, 3) := by decide +kernel
theorem dX6_advance_48 : decode cX6_advance 48 = .ok (.aload_n 0, 1) := by decide +kernel
theorem dX6_advance_49 : decode cX6_advance 49 = .ok (.aload_n 0, 1) := by decide +kernel
theorem dX6_advance_50 : decode cX6_advance 50 = .ok (.getfield 35, 3) := by decide +kernel
theorem dX6_advance_53 : decode cX6_advance 53 = .ok (.ifCond .ne 7, 3) := by decide +kernel
theorem dX6_advance_56 : decode cX6_advance 56 = .ok (.iload_n 1, 1) := by decide +kernel
theorem dX6_advance_57 : decode cX6_advance 57 = .ok (.goto 6, 3) := by decide +kernel
theorem dX6_advance_63 : decode cX6_advance 63 = .ok (.putfield 19, 3) := by decide +kernel
theorem dX6_advance_66 : decode cX6_advance 66 = .ok (.aload_n 0, 1) := by decide +kernel
theorem dX6_advance_67 : decode cX6_advance 67 = .ok (.getfield 35, 3) := by decide +kernel
theorem dX6_advance_70 : decode cX6_advance 70 = .ok (.iconst 1, 1) := by decide +kernel
theorem dX6_advance_71 : decode cX6_advance 71 = .ok (.if_icmp .eq 11, 3) := by decide +kernel
theorem dX6_advance_74 : decode cX6_advance 74 = .ok (.aload_n 0, 1) := by decide +kernel
theorem dX6_advance_75 : decode cX6_advance 75 = .ok (.getfield 35, 3) := by decide +kernel
theorem dX6_advance_78 : decode cX6_advance 78 = .ok (.iconst 2, 1) := by decide +kernel
theorem dX6_advance_79 : decode cX6_advance 79 = .ok (.if_icmp .ne 7, 3) := by decide +kernel
theorem dX6_advance_86 : decode cX6_advance 86 = .ok (.iconst 0, 1) := by decide +kernel
theorem dX6_advance_87 : decode cX6_advance 87 = .ok (.istore_n 2, 1) := by decide +kernel
theorem dX6_advance_88 : decode cX6_advance 88 = .ok (.iload_n 2, 1) := by decide +kernel
theorem dX6_advance_89 : decode cX6_advance 89 = .ok (.ifCond .eq 45, 3) := by decide +kernel
theorem dX6_advance_134 : decode cX6_advance 134 = .ok (.return_, 1) := by decide +kernel
theorem dX6_rewind_0 : decode cX6_rewind 0 = .ok (.aload_n 0, 1) := by decide +kernel
theorem dX6_rewind_1 : decode cX6_rewind 1 = .ok (.iconst 0, 1) := by decide +kernel
theorem dX6_rewind_2 : decode cX6_rewind 2 = .ok (.putfield 19, 3) := by decide +kernel
theorem dX6_rewind_5 : decode cX6_rewind 5 = .ok (.aload_n 0, 1) := by decide +kernel
theorem dX6_rewind_6 : decode cX6_rewind 6 = .ok (.invokevirtual 22, 3) := by decide +kernel
theorem dX6_rewind_9 : decode cX6_rewind 9 = .ok (.return_, 1) := by decide +kernel
theorem dX4_failAt_0 : decode cX4_failAt 0 = .ok (.aload_n 0, 1) := by decide +kernel
theorem dX4_failAt_1 : decode cX4_failAt 1 = .ok (.iload_n 1, 1) := by decide +kernel
theorem dX4_failAt_2 : decode cX4_failAt 2 = .ok (.putfield 26, 3) := by decide +kernel
theorem dX4_failAt_5 : decode cX4_failAt 5 = .ok (.aload_n 0, 1) := by decide +kernel
theorem dX4_failAt_6 : decode cX4_failAt 6 = .ok (.iload_n 2, 1) := by decide +kernel
theorem dX4_failAt_7 : decode cX4_failAt 7 = .ok (.putfield 18, 3) := by decide +kernel
theorem dX4_failAt_10 : decode cX4_failAt 10 = .ok (.iconst 0, 1) := by decide +kernel
theorem dX4_failAt_11 : decode cX4_failAt 11 = .ok (.ireturn, 1) := by decide +kernel
theorem dX4_failHere_0 : decode cX4_failHere 0 = .ok (.aload_n 0, 1) := by decide +kernel
theorem dX4_failHere_1 : decode cX4_failHere 1 = .ok (.iconst 1, 1) := by decide +kernel
theorem dX4_failHere_2 : decode cX4_failHere 2 = .ok (.aload_n 0, 1) := by decide +kernel
theorem dX4_failHere_3 : decode cX4_failHere 3 = .ok (.getfield 12, 3) := by decide +kernel
theorem dX4_failHere_6 : decode cX4_failHere 6 = .ok (.getfield 73, 3) := by decide +kernel
theorem dX4_failHere_9 : decode cX4_failHere 9 = .ok (.invokevirtual 76, 3) := by decide +kernel
theorem dX4_failHere_12 : decode cX4_failHere 12 = .ok (.ireturn, 1) := by decide +kernel
theorem dX4_readName_0 : decode cX4_readName 0 = .ok (.aload_n 0, 1) := by decide +kernel
theorem dX4_readName_1 : decode cX4_readName 1 = .ok (.getfield 12, 3) := by decide +kernel
theorem dX4_readName_4 : decode cX4_readName 4 = .ok (.getfield 61, 3) := by decide +kernel
theorem dX4_readName_7 : decode cX4_readName 7 = .ok (.iconst 1, 1) := by decide +kernel
theorem dX4_readName_8 : decode cX4_readName 8 = .ok (.if_icmp .ne 10, 3) := by decide +kernel
theorem dX4_readName_18 : decode cX4_readName 18 = .ok (.aload_n 0, 1) := by decide +kernel
theorem dX4_readName_19 : decode cX4_readName 19 = .ok (.invokevirtual 64, 3) := by decide +kernel
theorem dX4_readName_22 : decode cX4_readName 22 = .ok (.ireturn, 1) := by decide +kernel
theorem dX4_read_0 : decode cX4_read 0 = .ok (.aload_n 0, 1) := by decide +kernel
theorem dX4_read_1 : decode cX4_read 1 = .ok (.iconst 0, 1) := by decide +kernel
theorem dX4_read_2 : decode cX4_read 2 = .ok (.putfield 26, 3) := by decide +kernel
theorem dX4_read_5 : decode cX4_read 5 = .ok (.aload_n 0, 1) := by decide +kernel
theorem dX4_read_6 : decode cX4_read 6 = .ok (.iconst (-1), 1) := by decide +kernel
theorem dX4_read_7 : decode cX4_read 7 = .ok (.putfield 18, 3) := by decide +kernel
theorem dX4_read_10 : decode cX4_read 10 = .ok (.aload_n 0, 1) := by decide +kernel
theorem dX4_read_11 : decode cX4_read 11 = .ok (.iconst 0, 1) := by decide +kernel
theorem dX4_read_12 : decode cX4_read 12 = .ok (.putfield 29, 3) := by decide +kernel
theorem dX4_read_15 : decode cX4_read 15 = .ok (.aload_n 0, 1) := by decide +kernel
theorem dX4_read_16 : decode cX4_read 16 = .ok (.getfield 12, 3) := by decide +kernel
theorem dX4_read_19 : decode cX4_read 19 = .ok (.invokevirtual 32, 3) := by decide +kernel
theorem dX4_read_22 : decode cX4_read 22 = .ok (.aload_n 0, 1) := by decide +kernel
theorem dX4_read_23 : decode cX4_read 23 = .ok (.invokevirtual 35, 3) := by decide +kernel
theorem dX4_read_26 : decode cX4_read 26 = .ok (.ifCond .eq 20, 3) := by decide +kernel
theorem dX4_read_46 : decode cX4_read 46 = .ok (.iconst 0, 1) := by decide +kernel
theorem dX4_read_47 : decode cX4_read 47 = .ok (.ireturn, 1) := by decide +kernel
theorem dX8_rule_0 : decode cX8_rule 0 = .ok (.aload_n 0, 1) := by decide +kernel
theorem dX8_rule_1 : decode cX8_rule 1 = .ok (.getfield 40, 3) := by decide +kernel
theorem dX8_rule_4 : decode cX8_rule 4 = .ok (.invokevirtual 192, 3) := by decide +kernel
theorem dX8_rule_7 : decode cX8_rule 7 = .ok (.istore_n 1, 1) := by decide +kernel
theorem dX8_rule_8 : decode cX8_rule 8 = .ok (.aload_n 0, 1) := by decide +kernel
theorem dX8_rule_9 : decode cX8_rule 9 = .ok (.getfield 40, 3) := by decide +kernel
theorem dX8_rule_12 : decode cX8_rule 12 = .ok (.getfield 68, 3) := by decide +kernel
theorem dX8_rule_15 : decode cX8_rule 15 = .ok (.iconst 0, 1) := by decide +kernel
theorem dX8_rule_16 : decode cX8_rule 16 = .ok (.putfield 72, 3) := by decide +kernel
theorem dX8_rule_19 : decode cX8_rule 19 = .ok (.iload_n 1, 1) := by decide +kernel
theorem dX8_rule_20 : decode cX8_rule 20 = .ok (.ifCond .ne 5, 3) := by decide +kernel
theorem dX8_rule_23 : decode cX8_rule 23 = .ok (.iconst (-1), 1) := by decide +kernel
theorem dX8_rule_24 : decode cX8_rule 24 = .ok (.ireturn, 1) := by decide +kernel
set_option maxRecDepth 20000 in
theorem ggX6_advance_X6_byteAt : GoodIn wsX6_advance wsX6_byteAt := goodIn_r _ [9, 2, 10, 14, 15, 16, 17, 18] (by decide +kernel) (by decide +kernel)
set_option maxRecDepth 20000 in
theorem gX6_advance_X6_byteAt : GoodIn wsX6_advance (wsV RX6 25 RX6 yX6_byteAt wsX6_byteAt) := goodIn_app (goodIn_of _ (by decide +kernel)) ggX6_advance_X6_byteAt
set_option maxRecDepth 20000 in
theorem ggX6_advance_X6_kindOf : GoodIn wsX6_advance wsX6_kindOf := goodIn_r _ [13] (by decide +kernel) (by decide +kernel)
set_option maxRecDepth 20000 in
theorem gX6_advance_X6_kindOf : GoodIn wsX6_advance (va_wsS RX6 29 yX6_kindOf wsX6_kindOf) := goodIn_app (goodIn_of _ (by decide +kernel)) ggX6_advance_X6_kindOf
set_option maxRecDepth 20000 in
theorem ggX6_rewind_X6_advance : GoodIn wsX6_rewind wsX6_advance := goodIn_r _ [6, 1, 7, 8, 9, 10, 11, 12, 5, 13, 14, 15, 16, 17, 18, 19, 20, 21, 22] (by decide +kernel) (by decide +kernel)
set_option maxRecDepth 20000 in
theorem gX6_rewind_X6_advance : GoodIn wsX6_rewind (wsV RX6 22 RX6 yX6_advance wsX6_advance) := goodIn_app (goodIn_of _ (by decide +kernel)) ggX6_rewind_X6_advance
set_option maxRecDepth 20000 in
theorem ggX4_failHere_X4_failAt : GoodIn wsX4_failHere wsX4_failAt := goodIn_r _ [7, 8, 9, 10, 11, 12, 13, 14, 15, 16, 17] (by decide +kernel) (by decide +kernel)
set_option maxRecDepth 20000 in
theorem gX4_failHere_X4_failAt : GoodIn wsX4_failHere (wsV RX4 76 RX4 yX4_failAt wsX4_failAt) := goodIn_app (goodIn_of _ (by decide +kernel)) ggX4_failHere_X4_failAt
set_option maxRecDepth 20000 in
theorem ggX4_readName_X4_failHere : GoodIn wsX4_readName wsX4_failHere := goodIn_r _ [81, 1, 4, 82, 83, 84, 9, 85, 86, 87, 100, 101, 102, 103, 104, 105, 106, 107, 108, 109, 110, 111, 112] (by decide +kernel) (by decide +kernel)
set_option maxRecDepth 20000 in
theorem gX4_readName_X4_failHere : GoodIn wsX4_readName (wsV RX4 64 RX4 yX4_failHere wsX4_failHere) := goodIn_app (goodIn_of _ (by decide +kernel)) ggX4_readName_X4_failHere
set_option maxRecDepth 20000 in
theorem ggX4_read_X6_rewind : GoodIn wsX4_read wsX6_rewind := goodIn_r _ [12, 13, 14, 15, 16, 11, 17, 18, 19, 20, 21, 22, 23, 24, 25, 26, 27, 28, 164, 165, 166, 167, 168] (by decide +kernel) (by decide +kernel)
set_option maxRecDepth 20000 in
theorem gX4_read_X6_rewind : GoodIn wsX4_read (wsV RX4 32 RX6 yX6_rewind wsX6_rewind) := goodIn_app (goodIn_of _ (by decide +kernel)) ggX4_read_X6_rewind
set_option maxRecDepth 20000 in
theorem ggX4_read_X4_readName : GoodIn wsX4_read wsX4_readName := goodIn_r _ [33, 4, 7, 34, 35, 36, 37, 38, 39, 32, 40, 41, 42, 43, 11, 44, 20, 13, 19, 45, 46, 47, 48, 49, 50, 51, 52, 53, 54, 55, 56, 21, 22, 23, 24, 18, 25, 57, 58, 59, 60, 61, 62, 63, 64, 65, 66, 67, 68, 69, 70, 71, 72, 73, 74, 75, 76, 77, 78, 79, 80, 81, 82, 83, 84, 85, 86, 87, 88, 89, 90, 91, 92, 93, 94, 95, 96, 97, 98, 99, 100, 101, 102, 103, 104, 105, 1, 2, 106, 107, 108, 109, 110, 111, 15, 16, 17, 26, 27, 28, 156, 157, 158, 159, 160, 161, 162, 163, 164, 165, 166, 167, 168] (by decide +kernel) (by decide +kernel)
set_option maxRecDepth 20000 in
theorem gX4_read_X4_readName : GoodIn wsX4_read (wsV RX4 35 RX4 yX4_readName wsX4_readName) := goodIn_app (goodIn_of _ (by decide +kernel)) ggX4_read_X4_readName
set_option maxRecDepth 20000 in
theorem ggX8_rule_X4_read : GoodIn wsX8_rule wsX4_read := goodIn_r _ [15, 16, 17, 18, 19, 20, 21, 22, 23, 24, 25, 26, 27, 28, 29, 30, 31, 32, 33, 34, 35, 36, 37, 38, 39, 40, 41, 42, 43, 44, 45, 46, 14, 47, 48, 49, 50, 51, 52, 53, 54, 55, 56, 57, 58, 59, 60, 61, 62, 63, 64, 65, 66, 67, 68, 69, 70, 71, 72, 73, 74, 75, 76, 77, 78, 79, 80, 81, 82, 83, 84, 85, 86, 87, 88, 89, 90, 91, 92, 93, 94, 95, 96, 97, 98, 99, 100, 101, 102, 103, 104, 105, 106, 107, 108, 109, 110, 111, 112, 113, 114, 115, 116, 117, 118, 119, 120, 121, 122, 123, 124, 125, 126, 127, 128, 129, 130, 131, 132, 133, 134, 135, 136, 137, 138, 139, 140, 141, 142, 143, 144, 145, 146, 147, 148, 149, 150, 151, 152, 153, 154, 155, 156, 157, 158, 159, 160, 161, 162, 163, 164, 165, 166, 167, 168, 169, 217, 218, 219, 220, 221, 222, 223, 224, 225, 226, 227, 228, 229] (by decide +kernel) (by decide +kernel)
set_option maxRecDepth 20000 in
theorem gX8_rule_X4_read : GoodIn wsX8_rule (wsV RX8 192 RX4 yX4_read wsX4_read) := goodIn_app (goodIn_of _ (by decide +kernel)) ggX8_rule_X4_read
set_option maxHeartbeats 4000000 in
set_option maxRecDepth 100000 in
theorem s_X6_byteAt (l : Launch) (D : va_G) (ws : va_W) (tys : List (ClassId × FieldType)) (h0 k0 : Nat) (fs : List Value) (e0 : ws[k0]? = some (h0, .inr (6, fs))) (f0 : fs[0]? = some (.int 0)) : Met l yX6_byteAt wsX6_byteAt ({ frames := 0, cells := 0, slots := 0, locals := 0 }) (va_Pc [.ref h0, .int 0] (fun U => va_P D vwCl ws U.heap ∧ va_K D vwCl tys U)) (vp_Si (fun r => r = (-1))) 0 0 (fun _ => False) := by
  refine Met.ofW (cc := cX6_byteAt) (maxL := 2) (ret := (some .int)) (by decide) rfl ?_
  intro p e s m args below meth c s₁ B hml hv
  obtain ⟨rfl, hP, hK⟩ := hv
  have hx := B.exec
  have hb := B.bytes
  have hr := B.returns
  have hts := atoms_spec (ws := wsX6_byteAt) B.pre
  have hown : s.vm.findClass RX6 = some m.cls := findClass_of_methodNamed B.named
  have hlocks := B.notSynchronized
  have hin6 : ∀ w ∈ u_ws RX6 TX6 5, w ∈ wsX6_byteAt := (fun _ h9 => List.mem_cons_of_mem _ ((List.mem_append_right _ h9)))
  have hl := lv_entry ([.ref h0, .int 0]) (n := 2) (Nat.le_of_ble_eq_true rfl)
  rw [lg_entry_eq]
  generalize (lg_sl ([.ref h0, .int 0]) ++ List.replicate (2 - (lg_sl ([.ref h0, .int 0])).length) Slot.unset).toArray = ls at hl ⊢
  have hl : lv_has ls 2 [(0, .ref h0), (1, .int 0)] := hl
  refine lv_iload_n hx hb dX6_byteAt_0 rfl (lv_at hl 1 rfl) ?_
  refine lv_if_lt (tgt := 30) hx hb dX6_byteAt_1 (by decide) (fun c_1 => absurd c_1 (by decide)) (fun c_1 => ?_)
  refine lv_iload_n hx hb dX6_byteAt_4 rfl (lv_at hl 1 rfl) ?_
  refine lv_aload_n hx hb dX6_byteAt_5 rfl (lv_at hl 0 rfl) ?_
  refine va_get (D := D) (ci := 6) (v := .int 0) (C := RX6) (T := TX6) (N := 5) hx hb hts hin6 hown hK hP k0 e0 rfl 0 (by decide) (hts (.fieldLink RX6 15 "HoneyHouse$Tape" "length" "I") (List.mem_of_getElem? (i := 1) rfl)) (fun _ h9 => h9) f0 dX6_byteAt_6 ?_
  refine lv_icmp_ge (tgt := 30) hx hb dX6_byteAt_9 (by decide) (fun c_2 => ?_) (fun c_2 => absurd (by decide) c_2)
  refine lv_iconst (v := (-1)) hx hb dX6_byteAt_30 (by decide) ?_
  exact W.iret (v := (-1)) hx hb hr (fun t ht hW => ⟨(-1), rfl, rfl, ht⟩) (fun _ h9 => by cases h9) dX6_byteAt_31
set_option maxHeartbeats 4000000 in
set_option maxRecDepth 100000 in
theorem s_X6_kindOf (l : Launch)  : Met l yX6_kindOf wsX6_kindOf ({ frames := 0, cells := 0, slots := 0, locals := 0 }) (va_Pc [.int (-1)] (fun _ => True)) (vp_Si (fun r => r = 0)) 0 0 (fun _ => False) := by
  refine Met.ofW (cc := cX6_kindOf) (maxL := 1) (ret := (some .int)) (by decide) rfl ?_
  intro p e s m args below meth c s₁ B hml hv
  obtain ⟨rfl, -⟩ := hv
  have hx := B.exec
  have hb := B.bytes
  have hr := B.returns
  have hts := atoms_spec (ws := wsX6_kindOf) B.pre
  have hown : s.vm.findClass RX6 = some m.cls := findClass_of_methodNamed B.named
  have hlocks := B.notSynchronized
  have hl := lv_entry ([.int (-1)]) (n := 1) (Nat.le_of_ble_eq_true rfl)
  rw [lg_entry_eq]
  generalize (lg_sl ([.int (-1)]) ++ List.replicate (1 - (lg_sl ([.int (-1)])).length) Slot.unset).toArray = ls at hl ⊢
  have hl : lv_has ls 1 [(0, .int (-1))] := hl
  refine lv_iload_n hx hb dX6_kindOf_0 rfl (lv_at hl 0 rfl) ?_
  refine lv_bipush (v := 97) hx hb dX6_kindOf_1 (by decide) ?_
  refine lv_icmp_lt (tgt := 14) hx hb dX6_kindOf_3 (by decide) (fun c_1 => ?_) (fun c_1 => absurd (by decide) c_1)
  refine lv_iload_n hx hb dX6_kindOf_14 rfl (lv_at hl 0 rfl) ?_
  refine lv_bipush (v := 48) hx hb dX6_kindOf_15 (by decide) ?_
  refine lv_icmp_lt (tgt := 28) hx hb dX6_kindOf_17 (by decide) (fun c_2 => ?_) (fun c_2 => absurd (by decide) c_2)
  refine lv_iload_n hx hb dX6_kindOf_28 rfl (lv_at hl 0 rfl) ?_
  refine lv_bipush (v := 10) hx hb dX6_kindOf_29 (by decide) ?_
  refine lv_icmp_eq (tgt := 40) hx hb dX6_kindOf_31 (by decide) (fun c_3 => absurd c_3 (by decide)) (fun c_3 => ?_)
  refine lv_iload_n hx hb dX6_kindOf_34 rfl (lv_at hl 0 rfl) ?_
  refine lv_bipush (v := 32) hx hb dX6_kindOf_35 (by decide) ?_
  refine lv_icmp_ne (tgt := 42) hx hb dX6_kindOf_37 (by decide) (fun c_4 => ?_) (fun c_4 => absurd c_4 (by decide))
  refine lv_iload_n hx hb dX6_kindOf_42 rfl (lv_at hl 0 rfl) ?_
  refine lv_iconst (v := (-1)) hx hb dX6_kindOf_43 (by decide) ?_
  refine lv_icmp_ne (tgt := 51) hx hb dX6_kindOf_44 (by decide) (fun c_5 => absurd (by decide) c_5) (fun c_5 => ?_)
  refine lv_iconst (v := 0) hx hb dX6_kindOf_47 (by decide) ?_
  refine lv_goto (tgt := 52) hx hb dX6_kindOf_48 (by decide) ?_
  exact W.iret (v := 0) hx hb hr (fun t ht hW => ⟨0, rfl, rfl, ht⟩) (fun _ h9 => by cases h9) dX6_kindOf_52
set_option maxHeartbeats 4000000 in
set_option maxRecDepth 100000 in
theorem q_X6_advance (l : Launch) (D : va_G) (h0 bb : Nat) (tk ts : Int32) (sz : Nat)  : Met l yX6_advance wsX6_advance ({ frames := 1, cells := 0, slots := 0, locals := 21 }) (va_Pc [.ref h0] (fun U => U.heap.size = sz ∧ va_P D vwCl [(h0, .inr (6, [.int 0, .int tk, .int ts, .int 0, .ref bb]))] U.heap ∧ va_K D vwCl [] U ∧ va_D (fun _ => True) [(h0, .inr (6, [.int 0, .int tk, .int ts, .int 0, .ref bb]))])) (va_Qv (fun _ : Unit => True) (fun (_ : Unit) (t : State) => va_P D vwCl [(h0, .inr (6, [.int 0, .int 0, .int 0, .int 0, .ref bb]))] t.heap ∧ va_K D vwCl [] t ∧ va_D (va_A [(h0, .inr (6, [.int 0, .int tk, .int ts, .int 0, .ref bb]))] sz) [(h0, .inr (6, [.int 0, .int 0, .int 0, .int 0, .ref bb]))]) (va_A [(h0, .inr (6, [.int 0, .int tk, .int ts, .int 0, .ref bb]))] sz)) 0 0 (va_A [(h0, .inr (6, [.int 0, .int tk, .int ts, .int 0, .ref bb]))] sz) := by
  refine Met.ofW (cc := cX6_advance) (maxL := 3) (ret := none) (by decide) rfl ?_
  intro p e s m args below meth c s₁ B hml hv
  obtain ⟨rfl, hsz, hP, hK, hD0⟩ := hv
  have hx := B.exec
  have hb := B.bytes
  have hr := B.returns
  have hts := atoms_spec (ws := wsX6_advance) B.pre
  have hown : s.vm.findClass RX6 = some m.cls := findClass_of_methodNamed B.named
  have hlocks := B.notSynchronized
  subst hsz
  have hD := hD0.self (sz := s.heap.size)
  generalize hAe : va_A [(h0, .inr (6, [.int 0, .int tk, .int ts, .int 0, .ref bb]))] s.heap.size = A at hD ⊢
  have hA : ∀ q : Nat, s.heap.size ≤ q → A q := fun q h => by rw [← hAe]; exact Or.inr h
  have hS : va_S A s.heap s.heap [] := va_S.rf
  have hP : va_P D vwCl [(h0, .inr (6, [.int 0, .int tk, .int ts, .int 0, .ref bb]))] s.heap := hP
  have hin6 : ∀ w ∈ u_ws RX6 TX6 5, w ∈ wsX6_advance := (fun _ h9 => List.mem_cons_of_mem _ ((List.mem_append_right _ h9)))
  have hl := lv_entry ([.ref h0]) (n := 3) (Nat.le_of_ble_eq_true rfl)
  rw [lg_entry_eq]
  generalize (lg_sl ([.ref h0]) ++ List.replicate (3 - (lg_sl ([.ref h0])).length) Slot.unset).toArray = ls at hl ⊢
  have hl : lv_has ls 3 [(0, .ref h0)] := hl
  refine lv_aload_n hx hb dX6_advance_0 rfl (lv_at hl 0 rfl) ?_
  refine va_get (D := D) (ci := 6) (v := .int 0) (C := RX6) (T := TX6) (N := 5) hx hb hts hin6 hown hK hP 0 rfl rfl 3 (by decide) (hts (.fieldLink RX6 19 "HoneyHouse$Tape" "end" "I") (List.mem_of_getElem? (i := 1) rfl)) (fun _ h9 => h9) rfl dX6_advance_1 ?_
  refine lv_istore_n (lv' := [(1, .int 0), (0, .ref h0)]) hx hb dX6_advance_4 rfl hl (by decide) rfl (fun ls hl => ?_)
  refine lv_iload_n hx hb dX6_advance_5 rfl (lv_at hl 0 rfl) ?_
  refine lv_aload_n hx hb dX6_advance_6 rfl (lv_at hl 1 rfl) ?_
  refine va_get (D := D) (ci := 6) (v := .int 0) (C := RX6) (T := TX6) (N := 5) hx hb hts hin6 hown hK hP 0 rfl rfl 0 (by decide) (hts (.fieldLink RX6 15 "HoneyHouse$Tape" "length" "I") (List.mem_of_getElem? (i := 2) rfl)) (fun _ h9 => h9) rfl dX6_advance_7 ?_
  refine lv_icmp_ge (tgt := 31) hx hb dX6_advance_10 (by decide) (fun c_1 => ?_) (fun c_1 => absurd (by decide) c_1)
  refine lv_aload_n hx hb dX6_advance_31 rfl (lv_at hl 1 rfl) ?_
  refine lv_iload_n hx hb dX6_advance_32 rfl (lv_at hl 0 rfl) ?_
  refine va_put (D := D) (ci := 6) (v := .int 0) (ty := .int) (C := RX6) (T := TX6) (N := 5) hx hb hts hin6 tyX6 tyX6_ok nmX6 hown hK hP hD hS 0 rfl rfl 2 (by decide) (hts (.fieldLink RX6 32 "HoneyHouse$Tape" "start" "I") (List.mem_of_getElem? (i := 3) rfl)) (fun _ h9 => h9) rfl (tyX6_ok 2 (by decide)) rfl rfl (Nat.le_of_ble_eq_true rfl) dX6_advance_33 (fun H locs hP hD hS => ?_)
  have hP : va_P D vwCl [(h0, .inr (6, [.int 0, .int tk, .int 0, .int 0, .ref bb]))] H := hP
  have hD : va_D A [(h0, .inr (6, [.int 0, .int tk, .int 0, .int 0, .ref bb]))] := hD
  refine lv_aload_n hx hb dX6_advance_36 rfl (lv_at hl 1 rfl) ?_
  refine lv_aload_n hx hb dX6_advance_37 rfl (lv_at hl 1 rfl) ?_
  refine lv_iload_n hx hb dX6_advance_38 rfl (lv_at hl 0 rfl) ?_
  refine vp_callSi (W.runV (As := [.int 0]) (rest := [.ref h0]) ⟨hx, hb, hml, hown, hts⟩ (s_X6_byteAt l D [(h0, .inr (6, [.int 0, .int tk, .int 0, .int 0, .ref bb]))] [] h0 0 _ rfl rfl) (cwV 1 hts gX6_advance_X6_byteAt rfl rfl rfl (by decide +kernel) ⟨Nat.le_of_ble_eq_true rfl, Nat.le_of_ble_eq_true rfl⟩) ⟨fun a U g mk q => ⟨q.1, q.2.1, va_K.moved (u := U) (U := U.calling g mk a) (Vm.Alike.refl U.vm) q.2.2⟩, va_recv hK hP (ci := 6) (q0 := 0) rfl rfl, fun U hU hW => ⟨rfl, by rw [hU]; exact hP, va_K.moved hW.alike hK⟩⟩ rfl rfl hl.1 rfl (lv_room (Nat.le_of_ble_eq_true rfl)) dX6_advance_39 ⟨Nat.le_of_ble_eq_true rfl, Nat.le_of_ble_eq_true rfl⟩) (fun r_2 k_3 => ?_)
  subst k_3
  refine vp_callSi (W.runS (As := [.int (-1)]) (rest := [.ref h0]) ⟨hx, hb, hml, hown, hts⟩ (s_X6_kindOf l ) (va_cwS 1 hts gX6_advance_X6_kindOf rfl rfl rfl (by decide +kernel) ⟨Nat.le_of_ble_eq_true rfl, Nat.le_of_ble_eq_true rfl⟩) ⟨fun a U g mk q => q, fun U hU hW => ⟨rfl, trivial⟩⟩ rfl rfl hl.1 rfl (lv_room (Nat.le_of_ble_eq_true rfl)) dX6_advance_42 ⟨Nat.le_of_ble_eq_true rfl, Nat.le_of_ble_eq_true rfl⟩) (fun r_4 k_5 => ?_)
  subst k_5
  refine va_put (D := D) (ci := 6) (v := .int 0) (ty := .int) (C := RX6) (T := TX6) (N := 5) hx hb hts hin6 tyX6 tyX6_ok nmX6 hown hK hP hD hS 0 rfl rfl 1 (by decide) (hts (.fieldLink RX6 35 "HoneyHouse$Tape" "kind" "I") (List.mem_of_getElem? (i := 4) rfl)) (fun _ h9 => h9) rfl (tyX6_ok 1 (by decide)) rfl rfl (Nat.le_of_ble_eq_true rfl) dX6_advance_45 (fun H locs hP hD hS => ?_)
  have hP : va_P D vwCl [(h0, .inr (6, [.int 0, .int 0, .int 0, .int 0, .ref bb]))] H := hP
  have hD : va_D A [(h0, .inr (6, [.int 0, .int 0, .int 0, .int 0, .ref bb]))] := hD
  refine lv_aload_n hx hb dX6_advance_48 rfl (lv_at hl 1 rfl) ?_
  refine lv_aload_n hx hb dX6_advance_49 rfl (lv_at hl 1 rfl) ?_
  refine va_get (D := D) (ci := 6) (v := .int 0) (C := RX6) (T := TX6) (N := 5) hx hb hts hin6 hown hK hP 0 rfl rfl 1 (by decide) (hts (.fieldLink RX6 35 "HoneyHouse$Tape" "kind" "I") (List.mem_of_getElem? (i := 4) rfl)) (fun _ h9 => h9) rfl dX6_advance_50 ?_
  refine lv_if_ne (tgt := 60) hx hb dX6_advance_53 (by decide) (fun c_6 => absurd (by decide) c_6) (fun c_6 => ?_)
  refine lv_iload_n hx hb dX6_advance_56 rfl (lv_at hl 0 rfl) ?_
  refine lv_goto (tgt := 63) hx hb dX6_advance_57 (by decide) ?_
  refine va_put (D := D) (ci := 6) (v := .int 0) (ty := .int) (C := RX6) (T := TX6) (N := 5) hx hb hts hin6 tyX6 tyX6_ok nmX6 hown hK hP hD hS 0 rfl rfl 3 (by decide) (hts (.fieldLink RX6 19 "HoneyHouse$Tape" "end" "I") (List.mem_of_getElem? (i := 1) rfl)) (fun _ h9 => h9) rfl (tyX6_ok 3 (by decide)) rfl rfl (Nat.le_of_ble_eq_true rfl) dX6_advance_63 (fun H locs hP hD hS => ?_)
  have hP : va_P D vwCl [(h0, .inr (6, [.int 0, .int 0, .int 0, .int 0, .ref bb]))] H := hP
  have hD : va_D A [(h0, .inr (6, [.int 0, .int 0, .int 0, .int 0, .ref bb]))] := hD
  refine lv_aload_n hx hb dX6_advance_66 rfl (lv_at hl 1 rfl) ?_
  refine va_get (D := D) (ci := 6) (v := .int 0) (C := RX6) (T := TX6) (N := 5) hx hb hts hin6 hown hK hP 0 rfl rfl 1 (by decide) (hts (.fieldLink RX6 35 "HoneyHouse$Tape" "kind" "I") (List.mem_of_getElem? (i := 4) rfl)) (fun _ h9 => h9) rfl dX6_advance_67 ?_
  refine lv_iconst (v := 1) hx hb dX6_advance_70 (by decide) ?_
  refine lv_icmp_eq (tgt := 82) hx hb dX6_advance_71 (by decide) (fun c_7 => absurd c_7 (by decide)) (fun c_7 => ?_)
  refine lv_aload_n hx hb dX6_advance_74 rfl (lv_at hl 1 rfl) ?_
  refine va_get (D := D) (ci := 6) (v := .int 0) (C := RX6) (T := TX6) (N := 5) hx hb hts hin6 hown hK hP 0 rfl rfl 1 (by decide) (hts (.fieldLink RX6 35 "HoneyHouse$Tape" "kind" "I") (List.mem_of_getElem? (i := 4) rfl)) (fun _ h9 => h9) rfl dX6_advance_75 ?_
  refine lv_iconst (v := 2) hx hb dX6_advance_78 (by decide) ?_
  refine lv_icmp_ne (tgt := 86) hx hb dX6_advance_79 (by decide) (fun c_8 => ?_) (fun c_8 => absurd c_8 (by decide))
  refine lv_iconst (v := 0) hx hb dX6_advance_86 (by decide) ?_
  refine lv_istore_n (lv' := [(2, .int 0), (1, .int 0), (0, .ref h0)]) hx hb dX6_advance_87 rfl hl (by decide) rfl (fun ls hl => ?_)
  refine lv_iload_n hx hb dX6_advance_88 rfl (lv_at hl 0 rfl) ?_
  refine lv_if_eq (tgt := 134) hx hb dX6_advance_89 (by decide) (fun c_9 => ?_) (fun c_9 => absurd (by decide) c_9)
  have hP9 := hP.sub (ws' := [(h0, .inr (6, [.int 0, .int 0, .int 0, .int 0, .ref bb]))]) [0] rfl
  have hD9 := hD.sub (ws' := [(h0, .inr (6, [.int 0, .int 0, .int 0, .int 0, .ref bb]))]) [0] (by decide) rfl
  have hK9 := hK.sub (tys' := []) [] rfl
  refine W.widen (k := 0) (n := 0) (by omega) (by omega) ?_
  exact W.vret hx hb hr (fun t ht hW => ⟨⟨(), rfl, trivial, by rw [ht]; exact hP9, va_K.moved hW.alike hK9, hD9⟩, hS.F ht⟩) hS.2.2 dX6_advance_134
set_option maxHeartbeats 4000000 in
set_option maxRecDepth 100000 in
theorem q_X6_rewind (l : Launch) (D : va_G) (h0 bb : Nat) (tk ts te : Int32) (sz : Nat)  : Met l yX6_rewind wsX6_rewind ({ frames := 2, cells := 0, slots := 0, locals := 43 }) (va_Pc [.ref h0] (fun U => U.heap.size = sz ∧ va_P D vwCl [(h0, .inr (6, [.int 0, .int tk, .int ts, .int te, .ref bb]))] U.heap ∧ va_K D vwCl [] U ∧ va_D (fun _ => True) [(h0, .inr (6, [.int 0, .int tk, .int ts, .int te, .ref bb]))])) (va_Qv (fun _ : Unit => True) (fun (_ : Unit) (t : State) => va_P D vwCl [(h0, .inr (6, [.int 0, .int 0, .int 0, .int 0, .ref bb]))] t.heap ∧ va_K D vwCl [] t ∧ va_D (va_A [(h0, .inr (6, [.int 0, .int tk, .int ts, .int te, .ref bb]))] sz) [(h0, .inr (6, [.int 0, .int 0, .int 0, .int 0, .ref bb]))]) (va_A [(h0, .inr (6, [.int 0, .int tk, .int ts, .int te, .ref bb]))] sz)) 0 0 (va_A [(h0, .inr (6, [.int 0, .int tk, .int ts, .int te, .ref bb]))] sz) := by
  refine Met.ofW (cc := cX6_rewind) (maxL := 1) (ret := none) (by decide) rfl ?_
  intro p e s m args below meth c s₁ B hml hv
  obtain ⟨rfl, hsz, hP, hK, hD0⟩ := hv
  have hx := B.exec
  have hb := B.bytes
  have hr := B.returns
  have hts := atoms_spec (ws := wsX6_rewind) B.pre
  have hown : s.vm.findClass RX6 = some m.cls := findClass_of_methodNamed B.named
  have hlocks := B.notSynchronized
  subst hsz
  have hD := hD0.self (sz := s.heap.size)
  generalize hAe : va_A [(h0, .inr (6, [.int 0, .int tk, .int ts, .int te, .ref bb]))] s.heap.size = A at hD ⊢
  have hA : ∀ q : Nat, s.heap.size ≤ q → A q := fun q h => by rw [← hAe]; exact Or.inr h
  have hS : va_S A s.heap s.heap [] := va_S.rf
  have hP : va_P D vwCl [(h0, .inr (6, [.int 0, .int tk, .int ts, .int te, .ref bb]))] s.heap := hP
  have hin6 : ∀ w ∈ u_ws RX6 TX6 5, w ∈ wsX6_rewind := (fun _ h9 => List.mem_cons_of_mem _ ((List.mem_append_right _ h9)))
  have hl := lv_entry ([.ref h0]) (n := 1) (Nat.le_of_ble_eq_true rfl)
  rw [lg_entry_eq]
  generalize (lg_sl ([.ref h0]) ++ List.replicate (1 - (lg_sl ([.ref h0])).length) Slot.unset).toArray = ls at hl ⊢
  have hl : lv_has ls 1 [(0, .ref h0)] := hl
  refine lv_aload_n hx hb dX6_rewind_0 rfl (lv_at hl 0 rfl) ?_
  refine lv_iconst (v := 0) hx hb dX6_rewind_1 (by decide) ?_
  refine va_put (D := D) (ci := 6) (v := .int 0) (ty := .int) (C := RX6) (T := TX6) (N := 5) hx hb hts hin6 tyX6 tyX6_ok nmX6 hown hK hP hD hS 0 rfl rfl 3 (by decide) (hts (.fieldLink RX6 19 "HoneyHouse$Tape" "end" "I") (List.mem_of_getElem? (i := 1) rfl)) (fun _ h9 => h9) rfl (tyX6_ok 3 (by decide)) rfl rfl (Nat.le_of_ble_eq_true rfl) dX6_rewind_2 (fun H locs hP hD hS => ?_)
  have hP : va_P D vwCl [(h0, .inr (6, [.int 0, .int tk, .int ts, .int 0, .ref bb]))] H := hP
  have hD : va_D A [(h0, .inr (6, [.int 0, .int tk, .int ts, .int 0, .ref bb]))] := hD
  refine lv_aload_n hx hb dX6_rewind_5 rfl (lv_at hl 0 rfl) ?_
  have hPc := hP.sub (ws' := [(h0, .inr (6, [.int 0, .int tk, .int ts, .int 0, .ref bb]))]) [0] rfl
  have hDc := hD.sub (ws' := [(h0, .inr (6, [.int 0, .int tk, .int ts, .int 0, .ref bb]))]) [0] (by decide) rfl
  have hKc := hK.sub (tys' := []) [] rfl
  have hFc := va_free (wc := [(h0, .inr (6, [.int 0, .int tk, .int ts, .int 0, .ref bb]))]) hD hS hA [0] rfl
  refine va_callv (va_runV (As := []) (rest := []) ⟨hx, hb, hml, hown, hts⟩ (q_X6_advance l D h0 bb tk ts H.size) (cwV 0 hts gX6_rewind_X6_advance rfl rfl rfl (by decide +kernel) ⟨Nat.le_of_ble_eq_true rfl, Nat.le_of_ble_eq_true rfl⟩) ⟨fun a U g mk q => by obtain ⟨q0, q1, qP, qK, qD⟩ := q; exact ⟨q0, q1, qP, va_K.moved (u := U) (U := U.calling g mk a) (Vm.Alike.refl U.vm) qK, qD⟩, va_recv hKc hPc (ci := 6) (q0 := 0) rfl rfl, fun U hU hW => ⟨rfl, by rw [hU], by rw [hU]; exact hPc, va_K.moved hW.alike hKc, hDc.weaken (fun _ _ _ _ => trivial)⟩⟩ rfl rfl hl.1 rfl (lv_room (Nat.le_of_ble_eq_true rfl)) dX6_rewind_6 ⟨Nat.le_of_ble_eq_true rfl, Nat.le_of_ble_eq_true rfl⟩) hS (fun q _ h => hFc q h) hFc (fun u t H1 locs ht hvm w_2 hB hz1 hk1 hS => ?_)
  obtain ⟨hP1, hK1, hD1⟩ := hB
  rw [ht] at hP1
  have hK1 := va_K.moved hvm.symm hK1
  obtain ⟨hP, hD⟩ := va_join (wr := []) (w1 := [(h0, .inr (6, [.int 0, .int 0, .int 0, .int 0, .ref bb]))]) hP hD [0] [] rfl rfl (by decide) (by decide) hk1 hFc hP1 hD1
  have hK := hK.app hK1
  generalize H1 = H at hP hS ⊢
  have hP : va_P D vwCl [(h0, .inr (6, [.int 0, .int 0, .int 0, .int 0, .ref bb]))] H := hP
  have hD : va_D A [(h0, .inr (6, [.int 0, .int 0, .int 0, .int 0, .ref bb]))] := hD
  have hK : va_K D vwCl [] s := hK
  have hP9 := hP.sub (ws' := [(h0, .inr (6, [.int 0, .int 0, .int 0, .int 0, .ref bb]))]) [0] rfl
  have hD9 := hD.sub (ws' := [(h0, .inr (6, [.int 0, .int 0, .int 0, .int 0, .ref bb]))]) [0] (by decide) rfl
  have hK9 := hK.sub (tys' := []) [] rfl
  refine W.widen (k := 0) (n := 0) (by omega) (by omega) ?_
  exact W.vret hx hb hr (fun t ht hW => ⟨⟨(), rfl, trivial, by rw [ht]; exact hP9, va_K.moved hW.alike hK9, hD9⟩, hS.F ht⟩) hS.2.2 dX6_rewind_9
set_option maxHeartbeats 4000000 in
set_option maxRecDepth 100000 in
theorem q_X4_failAt (l : Launch) (D : va_G) (h0 tp cd : Nat) (nk : Int64) (fr fk fp cc vl : Int32) (a1 a2 : Int32) (sz : Nat)  : Met l yX4_failAt wsX4_failAt ({ frames := 0, cells := 0, slots := 0, locals := 0 }) (va_Pc [.ref h0, .int a1, .int a2] (fun U => U.heap.size = sz ∧ va_P D vwCl [(h0, .inr (4, [.ref tp, .long nk, .int fr, .int fk, .int fp, .ref cd, .int cc, .int vl]))] U.heap ∧ va_K D vwCl [] U ∧ va_D (fun _ => True) [(h0, .inr (4, [.ref tp, .long nk, .int fr, .int fk, .int fp, .ref cd, .int cc, .int vl]))])) (va_Qi (fun (r : Int32) (_ : Unit) => r = 0) (fun (_ : Unit) (t : State) => va_P D vwCl [(h0, .inr (4, [.ref tp, .long nk, .int fr, .int a1, .int a2, .ref cd, .int cc, .int vl]))] t.heap ∧ va_K D vwCl [] t ∧ va_D (va_A [(h0, .inr (4, [.ref tp, .long nk, .int fr, .int fk, .int fp, .ref cd, .int cc, .int vl]))] sz) [(h0, .inr (4, [.ref tp, .long nk, .int fr, .int a1, .int a2, .ref cd, .int cc, .int vl]))]) (va_A [(h0, .inr (4, [.ref tp, .long nk, .int fr, .int fk, .int fp, .ref cd, .int cc, .int vl]))] sz)) 0 0 (va_A [(h0, .inr (4, [.ref tp, .long nk, .int fr, .int fk, .int fp, .ref cd, .int cc, .int vl]))] sz) := by
  refine Met.ofW (cc := cX4_failAt) (maxL := 3) (ret := (some .boolean)) (by decide) rfl ?_
  intro p e s m args below meth c s₁ B hml hv
  obtain ⟨rfl, hsz, hP, hK, hD0⟩ := hv
  have hx := B.exec
  have hb := B.bytes
  have hr := B.returns
  have hts := atoms_spec (ws := wsX4_failAt) B.pre
  have hown : s.vm.findClass RX4 = some m.cls := findClass_of_methodNamed B.named
  have hlocks := B.notSynchronized
  subst hsz
  have hD := hD0.self (sz := s.heap.size)
  generalize hAe : va_A [(h0, .inr (4, [.ref tp, .long nk, .int fr, .int fk, .int fp, .ref cd, .int cc, .int vl]))] s.heap.size = A at hD ⊢
  have hA : ∀ q : Nat, s.heap.size ≤ q → A q := fun q h => by rw [← hAe]; exact Or.inr h
  have hS : va_S A s.heap s.heap [] := va_S.rf
  have hP : va_P D vwCl [(h0, .inr (4, [.ref tp, .long nk, .int fr, .int fk, .int fp, .ref cd, .int cc, .int vl]))] s.heap := hP
  have hin4 : ∀ w ∈ u_ws RX4 TX4 8, w ∈ wsX4_failAt := (fun _ h9 => List.mem_cons_of_mem _ ((List.mem_append_right _ h9)))
  have hl := lv_entry ([.ref h0, .int a1, .int a2]) (n := 3) (Nat.le_of_ble_eq_true rfl)
  rw [lg_entry_eq]
  generalize (lg_sl ([.ref h0, .int a1, .int a2]) ++ List.replicate (3 - (lg_sl ([.ref h0, .int a1, .int a2])).length) Slot.unset).toArray = ls at hl ⊢
  have hl : lv_has ls 3 [(0, .ref h0), (1, .int a1), (2, .int a2)] := hl
  refine lv_aload_n hx hb dX4_failAt_0 rfl (lv_at hl 0 rfl) ?_
  refine lv_iload_n hx hb dX4_failAt_1 rfl (lv_at hl 1 rfl) ?_
  refine va_put (D := D) (ci := 4) (v := .int a1) (ty := .int) (C := RX4) (T := TX4) (N := 8) hx hb hts hin4 tyX4 tyX4_ok nmX4 hown hK hP hD hS 0 rfl rfl 3 (by decide) (hts (.fieldLink RX4 26 "HoneyHouse$RuleReader" "faultKind" "I") (List.mem_of_getElem? (i := 1) rfl)) (fun _ h9 => h9) rfl (tyX4_ok 3 (by decide)) rfl rfl (Nat.le_of_ble_eq_true rfl) dX4_failAt_2 (fun H locs hP hD hS => ?_)
  have hP : va_P D vwCl [(h0, .inr (4, [.ref tp, .long nk, .int fr, .int a1, .int fp, .ref cd, .int cc, .int vl]))] H := hP
  have hD : va_D A [(h0, .inr (4, [.ref tp, .long nk, .int fr, .int a1, .int fp, .ref cd, .int cc, .int vl]))] := hD
  refine lv_aload_n hx hb dX4_failAt_5 rfl (lv_at hl 0 rfl) ?_
  refine lv_iload_n hx hb dX4_failAt_6 rfl (lv_at hl 2 rfl) ?_
  refine va_put (D := D) (ci := 4) (v := .int a2) (ty := .int) (C := RX4) (T := TX4) (N := 8) hx hb hts hin4 tyX4 tyX4_ok nmX4 hown hK hP hD hS 0 rfl rfl 4 (by decide) (hts (.fieldLink RX4 18 "HoneyHouse$RuleReader" "faultPlace" "I") (List.mem_of_getElem? (i := 2) rfl)) (fun _ h9 => h9) rfl (tyX4_ok 4 (by decide)) rfl rfl (Nat.le_of_ble_eq_true rfl) dX4_failAt_7 (fun H locs hP hD hS => ?_)
  have hP : va_P D vwCl [(h0, .inr (4, [.ref tp, .long nk, .int fr, .int a1, .int a2, .ref cd, .int cc, .int vl]))] H := hP
  have hD : va_D A [(h0, .inr (4, [.ref tp, .long nk, .int fr, .int a1, .int a2, .ref cd, .int cc, .int vl]))] := hD
  refine lv_iconst (v := 0) hx hb dX4_failAt_10 (by decide) ?_
  have hP9 := hP.sub (ws' := [(h0, .inr (4, [.ref tp, .long nk, .int fr, .int a1, .int a2, .ref cd, .int cc, .int vl]))]) [0] rfl
  have hD9 := hD.sub (ws' := [(h0, .inr (4, [.ref tp, .long nk, .int fr, .int a1, .int a2, .ref cd, .int cc, .int vl]))]) [0] (by decide) rfl
  have hK9 := hK.sub (tys' := []) [] rfl
  refine W.widen (k := 0) (n := 0) (by omega) (by omega) ?_
  exact W.zret (v := 0) hx hb hr rfl (fun t ht hW => ⟨⟨0, (), rfl, rfl, by rw [ht]; exact hP9, va_K.moved hW.alike hK9, hD9⟩, hS.F ht⟩) hS.2.2 dX4_failAt_11
set_option maxHeartbeats 4000000 in
set_option maxRecDepth 100000 in
theorem q_X4_failHere (l : Launch) (D : va_G) (h0 tp bb cd : Nat) (nk : Int64) (fr fk fp cc vl : Int32) (sz : Nat)  : Met l yX4_failHere wsX4_failHere ({ frames := 1, cells := 0, slots := 0, locals := 22 }) (va_Pc [.ref h0] (fun U => U.heap.size = sz ∧ va_P D vwCl [(h0, .inr (4, [.ref tp, .long nk, .int fr, .int fk, .int fp, .ref cd, .int cc, .int vl])), (tp, .inr (6, [.int 0, .int 0, .int 0, .int 0, .ref bb]))] U.heap ∧ va_K D vwCl [] U ∧ va_D (fun _ => True) [(h0, .inr (4, [.ref tp, .long nk, .int fr, .int fk, .int fp, .ref cd, .int cc, .int vl])), (tp, .inr (6, [.int 0, .int 0, .int 0, .int 0, .ref bb]))])) (va_Qi (fun (r : Int32) (_ : Unit) => r = 0) (fun (_ : Unit) (t : State) => va_P D vwCl [(tp, .inr (6, [.int 0, .int 0, .int 0, .int 0, .ref bb])), (h0, .inr (4, [.ref tp, .long nk, .int fr, .int 1, .int 0, .ref cd, .int cc, .int vl]))] t.heap ∧ va_K D vwCl [] t ∧ va_D (va_A [(h0, .inr (4, [.ref tp, .long nk, .int fr, .int fk, .int fp, .ref cd, .int cc, .int vl])), (tp, .inr (6, [.int 0, .int 0, .int 0, .int 0, .ref bb]))] sz) [(tp, .inr (6, [.int 0, .int 0, .int 0, .int 0, .ref bb])), (h0, .inr (4, [.ref tp, .long nk, .int fr, .int 1, .int 0, .ref cd, .int cc, .int vl]))]) (va_A [(h0, .inr (4, [.ref tp, .long nk, .int fr, .int fk, .int fp, .ref cd, .int cc, .int vl])), (tp, .inr (6, [.int 0, .int 0, .int 0, .int 0, .ref bb]))] sz)) 0 0 (va_A [(h0, .inr (4, [.ref tp, .long nk, .int fr, .int fk, .int fp, .ref cd, .int cc, .int vl])), (tp, .inr (6, [.int 0, .int 0, .int 0, .int 0, .ref bb]))] sz) := by
  refine Met.ofW (cc := cX4_failHere) (maxL := 1) (ret := (some .boolean)) (by decide) rfl ?_
  intro p e s m args below meth c s₁ B hml hv
  obtain ⟨rfl, hsz, hP, hK, hD0⟩ := hv
  have hx := B.exec
  have hb := B.bytes
  have hr := B.returns
  have hts := atoms_spec (ws := wsX4_failHere) B.pre
  have hown : s.vm.findClass RX4 = some m.cls := findClass_of_methodNamed B.named
  have hlocks := B.notSynchronized
  subst hsz
  have hD := hD0.self (sz := s.heap.size)
  generalize hAe : va_A [(h0, .inr (4, [.ref tp, .long nk, .int fr, .int fk, .int fp, .ref cd, .int cc, .int vl])), (tp, .inr (6, [.int 0, .int 0, .int 0, .int 0, .ref bb]))] s.heap.size = A at hD ⊢
  have hA : ∀ q : Nat, s.heap.size ≤ q → A q := fun q h => by rw [← hAe]; exact Or.inr h
  have hS : va_S A s.heap s.heap [] := va_S.rf
  have hP : va_P D vwCl [(h0, .inr (4, [.ref tp, .long nk, .int fr, .int fk, .int fp, .ref cd, .int cc, .int vl])), (tp, .inr (6, [.int 0, .int 0, .int 0, .int 0, .ref bb]))] s.heap := hP
  have hin4 : ∀ w ∈ u_ws RX4 TX4 8, w ∈ wsX4_failHere := (fun _ h9 => List.mem_cons_of_mem _ (List.mem_append_left _ ((List.mem_append_right _ h9))))
  have hin6 : ∀ w ∈ u_ws RX6 TX6 5, w ∈ wsX4_failHere := (fun _ h9 => List.mem_cons_of_mem _ ((List.mem_append_right _ h9)))
  have hl := lv_entry ([.ref h0]) (n := 1) (Nat.le_of_ble_eq_true rfl)
  rw [lg_entry_eq]
  generalize (lg_sl ([.ref h0]) ++ List.replicate (1 - (lg_sl ([.ref h0])).length) Slot.unset).toArray = ls at hl ⊢
  have hl : lv_has ls 1 [(0, .ref h0)] := hl
  refine lv_aload_n hx hb dX4_failHere_0 rfl (lv_at hl 0 rfl) ?_
  refine lv_iconst (v := 1) hx hb dX4_failHere_1 (by decide) ?_
  refine lv_aload_n hx hb dX4_failHere_2 rfl (lv_at hl 0 rfl) ?_
  refine va_get (D := D) (ci := 4) (v := .ref tp) (C := RX4) (T := TX4) (N := 8) hx hb hts hin4 hown hK hP 0 rfl rfl 0 (by decide) (hts (.fieldLink RX4 12 "HoneyHouse$RuleReader" "tape" "LHoneyHouse$Tape;") (List.mem_of_getElem? (i := 1) rfl)) (fun _ h9 => h9) rfl dX4_failHere_3 ?_
  refine va_get (D := D) (ci := 6) (v := .int 0) (C := RX6) (T := TX6) (N := 5) hx hb hts hin6 hown hK hP 1 rfl rfl 2 (by decide) (hts (.fieldLink RX4 73 "HoneyHouse$Tape" "start" "I") (List.mem_of_getElem? (i := 2) rfl)) (fun _ h9 => h9) rfl dX4_failHere_6 ?_
  have hPc := hP.sub (ws' := [(h0, .inr (4, [.ref tp, .long nk, .int fr, .int fk, .int fp, .ref cd, .int cc, .int vl]))]) [0] rfl
  have hDc := hD.sub (ws' := [(h0, .inr (4, [.ref tp, .long nk, .int fr, .int fk, .int fp, .ref cd, .int cc, .int vl]))]) [0] (by decide) rfl
  have hKc := hK.sub (tys' := []) [] rfl
  have hFc := va_free (wc := [(h0, .inr (4, [.ref tp, .long nk, .int fr, .int fk, .int fp, .ref cd, .int cc, .int vl]))]) hD hS hA [0] rfl
  refine va_calli (va_runV (As := [.int 1, .int 0]) (rest := []) ⟨hx, hb, hml, hown, hts⟩ (q_X4_failAt l D h0 tp cd nk fr fk fp cc vl 1 0 s.heap.size) (cwV 2 hts gX4_failHere_X4_failAt rfl rfl rfl (by decide +kernel) ⟨Nat.le_of_ble_eq_true rfl, Nat.le_of_ble_eq_true rfl⟩) ⟨fun a U g mk q => by obtain ⟨q0, q1, qP, qK, qD⟩ := q; exact ⟨q0, q1, qP, va_K.moved (u := U) (U := U.calling g mk a) (Vm.Alike.refl U.vm) qK, qD⟩, va_recv hKc hPc (ci := 4) (q0 := 0) rfl rfl, fun U hU hW => ⟨rfl, by rw [hU], by rw [hU]; exact hPc, va_K.moved hW.alike hKc, hDc.weaken (fun _ _ _ _ => trivial)⟩⟩ rfl rfl hl.1 rfl (lv_room (Nat.le_of_ble_eq_true rfl)) dX4_failHere_9 ⟨Nat.le_of_ble_eq_true rfl, Nat.le_of_ble_eq_true rfl⟩) hS (fun q _ h => hFc q h) hFc (fun r_1 u t H1 locs ht hvm w_2 hB hz1 hk1 hS => ?_)
  obtain ⟨hP1, hK1, hD1⟩ := hB
  rw [ht] at hP1
  have hK1 := va_K.moved hvm.symm hK1
  obtain ⟨hP, hD⟩ := va_join (wr := [(tp, .inr (6, [.int 0, .int 0, .int 0, .int 0, .ref bb]))]) (w1 := [(h0, .inr (4, [.ref tp, .long nk, .int fr, .int 1, .int 0, .ref cd, .int cc, .int vl]))]) hP hD [0] [1] rfl rfl (by decide) (by decide) hk1 hFc hP1 hD1
  have hK := hK.app hK1
  generalize H1 = H at hP hS ⊢
  have hP : va_P D vwCl [(tp, .inr (6, [.int 0, .int 0, .int 0, .int 0, .ref bb])), (h0, .inr (4, [.ref tp, .long nk, .int fr, .int 1, .int 0, .ref cd, .int cc, .int vl]))] H := hP
  have hD : va_D A [(tp, .inr (6, [.int 0, .int 0, .int 0, .int 0, .ref bb])), (h0, .inr (4, [.ref tp, .long nk, .int fr, .int 1, .int 0, .ref cd, .int cc, .int vl]))] := hD
  have hK : va_K D vwCl [] s := hK
  subst w_2
  have hP9 := hP.sub (ws' := [(tp, .inr (6, [.int 0, .int 0, .int 0, .int 0, .ref bb])), (h0, .inr (4, [.ref tp, .long nk, .int fr, .int 1, .int 0, .ref cd, .int cc, .int vl]))]) [0, 1] rfl
  have hD9 := hD.sub (ws' := [(tp, .inr (6, [.int 0, .int 0, .int 0, .int 0, .ref bb])), (h0, .inr (4, [.ref tp, .long nk, .int fr, .int 1, .int 0, .ref cd, .int cc, .int vl]))]) [0, 1] (by decide) rfl
  have hK9 := hK.sub (tys' := []) [] rfl
  refine W.widen (k := 0) (n := 0) (by omega) (by omega) ?_
  exact W.zret (v := 0) hx hb hr rfl (fun t ht hW => ⟨⟨0, (), rfl, rfl, by rw [ht]; exact hP9, va_K.moved hW.alike hK9, hD9⟩, hS.F ht⟩) hS.2.2 dX4_failHere_12
set_option maxHeartbeats 4000000 in
set_option maxRecDepth 100000 in
theorem q_X4_readName (l : Launch) (D : va_G) (h0 tp bb cd : Nat) (nk : Int64) (fr fk fp cc vl : Int32) (sz : Nat)  : Met l yX4_readName wsX4_readName ({ frames := 2, cells := 0, slots := 0, locals := 42 }) (va_Pc [.ref h0] (fun U => U.heap.size = sz ∧ va_P D vwCl [(h0, .inr (4, [.ref tp, .long nk, .int fr, .int fk, .int fp, .ref cd, .int cc, .int vl])), (tp, .inr (6, [.int 0, .int 0, .int 0, .int 0, .ref bb]))] U.heap ∧ va_K D vwCl [] U ∧ va_D (fun _ => True) [(h0, .inr (4, [.ref tp, .long nk, .int fr, .int fk, .int fp, .ref cd, .int cc, .int vl])), (tp, .inr (6, [.int 0, .int 0, .int 0, .int 0, .ref bb]))])) (va_Qi (fun (r : Int32) (_ : Unit) => r = 0) (fun (_ : Unit) (t : State) => va_P D vwCl [(tp, .inr (6, [.int 0, .int 0, .int 0, .int 0, .ref bb])), (h0, .inr (4, [.ref tp, .long nk, .int fr, .int 1, .int 0, .ref cd, .int cc, .int vl]))] t.heap ∧ va_K D vwCl [] t ∧ va_D (va_A [(h0, .inr (4, [.ref tp, .long nk, .int fr, .int fk, .int fp, .ref cd, .int cc, .int vl])), (tp, .inr (6, [.int 0, .int 0, .int 0, .int 0, .ref bb]))] sz) [(tp, .inr (6, [.int 0, .int 0, .int 0, .int 0, .ref bb])), (h0, .inr (4, [.ref tp, .long nk, .int fr, .int 1, .int 0, .ref cd, .int cc, .int vl]))]) (va_A [(h0, .inr (4, [.ref tp, .long nk, .int fr, .int fk, .int fp, .ref cd, .int cc, .int vl])), (tp, .inr (6, [.int 0, .int 0, .int 0, .int 0, .ref bb]))] sz)) 0 0 (va_A [(h0, .inr (4, [.ref tp, .long nk, .int fr, .int fk, .int fp, .ref cd, .int cc, .int vl])), (tp, .inr (6, [.int 0, .int 0, .int 0, .int 0, .ref bb]))] sz) := by
  refine Met.ofW (cc := cX4_readName) (maxL := 1) (ret := (some .boolean)) (by decide) rfl ?_
  intro p e s m args below meth c s₁ B hml hv
  obtain ⟨rfl, hsz, hP, hK, hD0⟩ := hv
  have hx := B.exec
  have hb := B.bytes
  have hr := B.returns
  have hts := atoms_spec (ws := wsX4_readName) B.pre
  have hown : s.vm.findClass RX4 = some m.cls := findClass_of_methodNamed B.named
  have hlocks := B.notSynchronized
  subst hsz
  have hD := hD0.self (sz := s.heap.size)
  generalize hAe : va_A [(h0, .inr (4, [.ref tp, .long nk, .int fr, .int fk, .int fp, .ref cd, .int cc, .int vl])), (tp, .inr (6, [.int 0, .int 0, .int 0, .int 0, .ref bb]))] s.heap.size = A at hD ⊢
  have hA : ∀ q : Nat, s.heap.size ≤ q → A q := fun q h => by rw [← hAe]; exact Or.inr h
  have hS : va_S A s.heap s.heap [] := va_S.rf
  have hP : va_P D vwCl [(h0, .inr (4, [.ref tp, .long nk, .int fr, .int fk, .int fp, .ref cd, .int cc, .int vl])), (tp, .inr (6, [.int 0, .int 0, .int 0, .int 0, .ref bb]))] s.heap := hP
  have hin4 : ∀ w ∈ u_ws RX4 TX4 8, w ∈ wsX4_readName := (fun _ h9 => List.mem_cons_of_mem _ (List.mem_append_left _ ((List.mem_append_right _ h9))))
  have hin6 : ∀ w ∈ u_ws RX6 TX6 5, w ∈ wsX4_readName := (fun _ h9 => List.mem_cons_of_mem _ ((List.mem_append_right _ h9)))
  have hl := lv_entry ([.ref h0]) (n := 1) (Nat.le_of_ble_eq_true rfl)
  rw [lg_entry_eq]
  generalize (lg_sl ([.ref h0]) ++ List.replicate (1 - (lg_sl ([.ref h0])).length) Slot.unset).toArray = ls at hl ⊢
  have hl : lv_has ls 1 [(0, .ref h0)] := hl
  refine lv_aload_n hx hb dX4_readName_0 rfl (lv_at hl 0 rfl) ?_
  refine va_get (D := D) (ci := 4) (v := .ref tp) (C := RX4) (T := TX4) (N := 8) hx hb hts hin4 hown hK hP 0 rfl rfl 0 (by decide) (hts (.fieldLink RX4 12 "HoneyHouse$RuleReader" "tape" "LHoneyHouse$Tape;") (List.mem_of_getElem? (i := 1) rfl)) (fun _ h9 => h9) rfl dX4_readName_1 ?_
  refine va_get (D := D) (ci := 6) (v := .int 0) (C := RX6) (T := TX6) (N := 5) hx hb hts hin6 hown hK hP 1 rfl rfl 1 (by decide) (hts (.fieldLink RX4 61 "HoneyHouse$Tape" "kind" "I") (List.mem_of_getElem? (i := 2) rfl)) (fun _ h9 => h9) rfl dX4_readName_4 ?_
  refine lv_iconst (v := 1) hx hb dX4_readName_7 (by decide) ?_
  refine lv_icmp_ne (tgt := 18) hx hb dX4_readName_8 (by decide) (fun c_1 => ?_) (fun c_1 => absurd c_1 (by decide))
  refine lv_aload_n hx hb dX4_readName_18 rfl (lv_at hl 0 rfl) ?_
  have hPc := hP.sub (ws' := [(h0, .inr (4, [.ref tp, .long nk, .int fr, .int fk, .int fp, .ref cd, .int cc, .int vl])), (tp, .inr (6, [.int 0, .int 0, .int 0, .int 0, .ref bb]))]) [0, 1] rfl
  have hDc := hD.sub (ws' := [(h0, .inr (4, [.ref tp, .long nk, .int fr, .int fk, .int fp, .ref cd, .int cc, .int vl])), (tp, .inr (6, [.int 0, .int 0, .int 0, .int 0, .ref bb]))]) [0, 1] (by decide) rfl
  have hKc := hK.sub (tys' := []) [] rfl
  have hFc := va_free (wc := [(h0, .inr (4, [.ref tp, .long nk, .int fr, .int fk, .int fp, .ref cd, .int cc, .int vl])), (tp, .inr (6, [.int 0, .int 0, .int 0, .int 0, .ref bb]))]) hD hS hA [0, 1] rfl
  refine va_calli (va_runV (As := []) (rest := []) ⟨hx, hb, hml, hown, hts⟩ (q_X4_failHere l D h0 tp bb cd nk fr fk fp cc vl s.heap.size) (cwV 0 hts gX4_readName_X4_failHere rfl rfl rfl (by decide +kernel) ⟨Nat.le_of_ble_eq_true rfl, Nat.le_of_ble_eq_true rfl⟩) ⟨fun a U g mk q => by obtain ⟨q0, q1, qP, qK, qD⟩ := q; exact ⟨q0, q1, qP, va_K.moved (u := U) (U := U.calling g mk a) (Vm.Alike.refl U.vm) qK, qD⟩, va_recv hKc hPc (ci := 4) (q0 := 0) rfl rfl, fun U hU hW => ⟨rfl, by rw [hU], by rw [hU]; exact hPc, va_K.moved hW.alike hKc, hDc.weaken (fun _ _ _ _ => trivial)⟩⟩ rfl rfl hl.1 rfl (lv_room (Nat.le_of_ble_eq_true rfl)) dX4_readName_19 ⟨Nat.le_of_ble_eq_true rfl, Nat.le_of_ble_eq_true rfl⟩) hS (fun q _ h => hFc q h) hFc (fun r_2 u t H1 locs ht hvm w_3 hB hz1 hk1 hS => ?_)
  obtain ⟨hP1, hK1, hD1⟩ := hB
  rw [ht] at hP1
  have hK1 := va_K.moved hvm.symm hK1
  obtain ⟨hP, hD⟩ := va_join (wr := []) (w1 := [(tp, .inr (6, [.int 0, .int 0, .int 0, .int 0, .ref bb])), (h0, .inr (4, [.ref tp, .long nk, .int fr, .int 1, .int 0, .ref cd, .int cc, .int vl]))]) hP hD [0, 1] [] rfl rfl (by decide) (by decide) hk1 hFc hP1 hD1
  have hK := hK.app hK1
  generalize H1 = H at hP hS ⊢
  have hP : va_P D vwCl [(tp, .inr (6, [.int 0, .int 0, .int 0, .int 0, .ref bb])), (h0, .inr (4, [.ref tp, .long nk, .int fr, .int 1, .int 0, .ref cd, .int cc, .int vl]))] H := hP
  have hD : va_D A [(tp, .inr (6, [.int 0, .int 0, .int 0, .int 0, .ref bb])), (h0, .inr (4, [.ref tp, .long nk, .int fr, .int 1, .int 0, .ref cd, .int cc, .int vl]))] := hD
  have hK : va_K D vwCl [] s := hK
  subst w_3
  have hP9 := hP.sub (ws' := [(tp, .inr (6, [.int 0, .int 0, .int 0, .int 0, .ref bb])), (h0, .inr (4, [.ref tp, .long nk, .int fr, .int 1, .int 0, .ref cd, .int cc, .int vl]))]) [0, 1] rfl
  have hD9 := hD.sub (ws' := [(tp, .inr (6, [.int 0, .int 0, .int 0, .int 0, .ref bb])), (h0, .inr (4, [.ref tp, .long nk, .int fr, .int 1, .int 0, .ref cd, .int cc, .int vl]))]) [0, 1] (by decide) rfl
  have hK9 := hK.sub (tys' := []) [] rfl
  refine W.widen (k := 0) (n := 0) (by omega) (by omega) ?_
  exact W.zret (v := 0) hx hb hr rfl (fun t ht hW => ⟨⟨0, (), rfl, rfl, by rw [ht]; exact hP9, va_K.moved hW.alike hK9, hD9⟩, hS.F ht⟩) hS.2.2 dX4_readName_22
set_option maxHeartbeats 4000000 in
set_option maxRecDepth 100000 in
theorem q_X4_read (l : Launch) (D : va_G) (h0 tp bb cd : Nat) (nk : Int64) (fr fk fp cc vl : Int32) (tk ts te : Int32) (sz : Nat)  : Met l yX4_read wsX4_read ({ frames := 3, cells := 0, slots := 0, locals := 63 }) (va_Pc [.ref h0] (fun U => U.heap.size = sz ∧ va_P D vwCl [(h0, .inr (4, [.ref tp, .long nk, .int fr, .int fk, .int fp, .ref cd, .int cc, .int vl])), (tp, .inr (6, [.int 0, .int tk, .int ts, .int te, .ref bb]))] U.heap ∧ va_K D vwCl [] U ∧ va_D (fun _ => True) [(h0, .inr (4, [.ref tp, .long nk, .int fr, .int fk, .int fp, .ref cd, .int cc, .int vl])), (tp, .inr (6, [.int 0, .int tk, .int ts, .int te, .ref bb]))])) (va_Qi (fun (r : Int32) (_ : Unit) => r = 0) (fun (_ : Unit) (t : State) => va_P D vwCl [(tp, .inr (6, [.int 0, .int 0, .int 0, .int 0, .ref bb])), (h0, .inr (4, [.ref tp, .long nk, .int fr, .int 1, .int 0, .ref cd, .int 0, .int vl]))] t.heap ∧ va_K D vwCl [] t ∧ va_D (va_A [(h0, .inr (4, [.ref tp, .long nk, .int fr, .int fk, .int fp, .ref cd, .int cc, .int vl])), (tp, .inr (6, [.int 0, .int tk, .int ts, .int te, .ref bb]))] sz) [(tp, .inr (6, [.int 0, .int 0, .int 0, .int 0, .ref bb])), (h0, .inr (4, [.ref tp, .long nk, .int fr, .int 1, .int 0, .ref cd, .int 0, .int vl]))]) (va_A [(h0, .inr (4, [.ref tp, .long nk, .int fr, .int fk, .int fp, .ref cd, .int cc, .int vl])), (tp, .inr (6, [.int 0, .int tk, .int ts, .int te, .ref bb]))] sz)) 0 0 (va_A [(h0, .inr (4, [.ref tp, .long nk, .int fr, .int fk, .int fp, .ref cd, .int cc, .int vl])), (tp, .inr (6, [.int 0, .int tk, .int ts, .int te, .ref bb]))] sz) := by
  refine Met.ofW (cc := cX4_read) (maxL := 1) (ret := (some .boolean)) (by decide) rfl ?_
  intro p e s m args below meth c s₁ B hml hv
  obtain ⟨rfl, hsz, hP, hK, hD0⟩ := hv
  have hx := B.exec
  have hb := B.bytes
  have hr := B.returns
  have hts := atoms_spec (ws := wsX4_read) B.pre
  have hown : s.vm.findClass RX4 = some m.cls := findClass_of_methodNamed B.named
  have hlocks := B.notSynchronized
  subst hsz
  have hD := hD0.self (sz := s.heap.size)
  generalize hAe : va_A [(h0, .inr (4, [.ref tp, .long nk, .int fr, .int fk, .int fp, .ref cd, .int cc, .int vl])), (tp, .inr (6, [.int 0, .int tk, .int ts, .int te, .ref bb]))] s.heap.size = A at hD ⊢
  have hA : ∀ q : Nat, s.heap.size ≤ q → A q := fun q h => by rw [← hAe]; exact Or.inr h
  have hS : va_S A s.heap s.heap [] := va_S.rf
  have hP : va_P D vwCl [(h0, .inr (4, [.ref tp, .long nk, .int fr, .int fk, .int fp, .ref cd, .int cc, .int vl])), (tp, .inr (6, [.int 0, .int tk, .int ts, .int te, .ref bb]))] s.heap := hP
  have hin4 : ∀ w ∈ u_ws RX4 TX4 8, w ∈ wsX4_read := (fun _ h9 => List.mem_cons_of_mem _ (List.mem_append_left _ ((List.mem_append_right _ h9))))
  have hl := lv_entry ([.ref h0]) (n := 1) (Nat.le_of_ble_eq_true rfl)
  rw [lg_entry_eq]
  generalize (lg_sl ([.ref h0]) ++ List.replicate (1 - (lg_sl ([.ref h0])).length) Slot.unset).toArray = ls at hl ⊢
  have hl : lv_has ls 1 [(0, .ref h0)] := hl
  refine lv_aload_n hx hb dX4_read_0 rfl (lv_at hl 0 rfl) ?_
  refine lv_iconst (v := 0) hx hb dX4_read_1 (by decide) ?_
  refine va_put (D := D) (ci := 4) (v := .int 0) (ty := .int) (C := RX4) (T := TX4) (N := 8) hx hb hts hin4 tyX4 tyX4_ok nmX4 hown hK hP hD hS 0 rfl rfl 3 (by decide) (hts (.fieldLink RX4 26 "HoneyHouse$RuleReader" "faultKind" "I") (List.mem_of_getElem? (i := 1) rfl)) (fun _ h9 => h9) rfl (tyX4_ok 3 (by decide)) rfl rfl (Nat.le_of_ble_eq_true rfl) dX4_read_2 (fun H locs hP hD hS => ?_)
  have hP : va_P D vwCl [(h0, .inr (4, [.ref tp, .long nk, .int fr, .int 0, .int fp, .ref cd, .int cc, .int vl])), (tp, .inr (6, [.int 0, .int tk, .int ts, .int te, .ref bb]))] H := hP
  have hD : va_D A [(h0, .inr (4, [.ref tp, .long nk, .int fr, .int 0, .int fp, .ref cd, .int cc, .int vl])), (tp, .inr (6, [.int 0, .int tk, .int ts, .int te, .ref bb]))] := hD
  refine lv_aload_n hx hb dX4_read_5 rfl (lv_at hl 0 rfl) ?_
  refine lv_iconst (v := (-1)) hx hb dX4_read_6 (by decide) ?_
  refine va_put (D := D) (ci := 4) (v := .int (-1)) (ty := .int) (C := RX4) (T := TX4) (N := 8) hx hb hts hin4 tyX4 tyX4_ok nmX4 hown hK hP hD hS 0 rfl rfl 4 (by decide) (hts (.fieldLink RX4 18 "HoneyHouse$RuleReader" "faultPlace" "I") (List.mem_of_getElem? (i := 2) rfl)) (fun _ h9 => h9) rfl (tyX4_ok 4 (by decide)) rfl rfl (Nat.le_of_ble_eq_true rfl) dX4_read_7 (fun H locs hP hD hS => ?_)
  have hP : va_P D vwCl [(h0, .inr (4, [.ref tp, .long nk, .int fr, .int 0, .int (-1), .ref cd, .int cc, .int vl])), (tp, .inr (6, [.int 0, .int tk, .int ts, .int te, .ref bb]))] H := hP
  have hD : va_D A [(h0, .inr (4, [.ref tp, .long nk, .int fr, .int 0, .int (-1), .ref cd, .int cc, .int vl])), (tp, .inr (6, [.int 0, .int tk, .int ts, .int te, .ref bb]))] := hD
  refine lv_aload_n hx hb dX4_read_10 rfl (lv_at hl 0 rfl) ?_
  refine lv_iconst (v := 0) hx hb dX4_read_11 (by decide) ?_
  refine va_put (D := D) (ci := 4) (v := .int 0) (ty := .int) (C := RX4) (T := TX4) (N := 8) hx hb hts hin4 tyX4 tyX4_ok nmX4 hown hK hP hD hS 0 rfl rfl 6 (by decide) (hts (.fieldLink RX4 29 "HoneyHouse$RuleReader" "codeCount" "I") (List.mem_of_getElem? (i := 3) rfl)) (fun _ h9 => h9) rfl (tyX4_ok 6 (by decide)) rfl rfl (Nat.le_of_ble_eq_true rfl) dX4_read_12 (fun H locs hP hD hS => ?_)
  have hP : va_P D vwCl [(h0, .inr (4, [.ref tp, .long nk, .int fr, .int 0, .int (-1), .ref cd, .int 0, .int vl])), (tp, .inr (6, [.int 0, .int tk, .int ts, .int te, .ref bb]))] H := hP
  have hD : va_D A [(h0, .inr (4, [.ref tp, .long nk, .int fr, .int 0, .int (-1), .ref cd, .int 0, .int vl])), (tp, .inr (6, [.int 0, .int tk, .int ts, .int te, .ref bb]))] := hD
  refine lv_aload_n hx hb dX4_read_15 rfl (lv_at hl 0 rfl) ?_
  refine va_get (D := D) (ci := 4) (v := .ref tp) (C := RX4) (T := TX4) (N := 8) hx hb hts hin4 hown hK hP 0 rfl rfl 0 (by decide) (hts (.fieldLink RX4 12 "HoneyHouse$RuleReader" "tape" "LHoneyHouse$Tape;") (List.mem_of_getElem? (i := 4) rfl)) (fun _ h9 => h9) rfl dX4_read_16 ?_
  have hPc := hP.sub (ws' := [(tp, .inr (6, [.int 0, .int tk, .int ts, .int te, .ref bb]))]) [1] rfl
  have hDc := hD.sub (ws' := [(tp, .inr (6, [.int 0, .int tk, .int ts, .int te, .ref bb]))]) [1] (by decide) rfl
  have hKc := hK.sub (tys' := []) [] rfl
  have hFc := va_free (wc := [(tp, .inr (6, [.int 0, .int tk, .int ts, .int te, .ref bb]))]) hD hS hA [1] rfl
  refine va_callv (va_runV (As := []) (rest := []) ⟨hx, hb, hml, hown, hts⟩ (q_X6_rewind l D tp bb tk ts te H.size) (cwV 0 hts gX4_read_X6_rewind rfl rfl rfl (by decide +kernel) ⟨Nat.le_of_ble_eq_true rfl, Nat.le_of_ble_eq_true rfl⟩) ⟨fun a U g mk q => by obtain ⟨q0, q1, qP, qK, qD⟩ := q; exact ⟨q0, q1, qP, va_K.moved (u := U) (U := U.calling g mk a) (Vm.Alike.refl U.vm) qK, qD⟩, va_recv hKc hPc (ci := 6) (q0 := 0) rfl rfl, fun U hU hW => ⟨rfl, by rw [hU], by rw [hU]; exact hPc, va_K.moved hW.alike hKc, hDc.weaken (fun _ _ _ _ => trivial)⟩⟩ rfl rfl hl.1 rfl (lv_room (Nat.le_of_ble_eq_true rfl)) dX4_read_19 ⟨Nat.le_of_ble_eq_true rfl, Nat.le_of_ble_eq_true rfl⟩) hS (fun q _ h => hFc q h) hFc (fun u t H1 locs ht hvm w_2 hB hz1 hk1 hS => ?_)
  obtain ⟨hP1, hK1, hD1⟩ := hB
  rw [ht] at hP1
  have hK1 := va_K.moved hvm.symm hK1
  obtain ⟨hP, hD⟩ := va_join (wr := [(h0, .inr (4, [.ref tp, .long nk, .int fr, .int 0, .int (-1), .ref cd, .int 0, .int vl]))]) (w1 := [(tp, .inr (6, [.int 0, .int 0, .int 0, .int 0, .ref bb]))]) hP hD [1] [0] rfl rfl (by decide) (by decide) hk1 hFc hP1 hD1
  have hK := hK.app hK1
  generalize H1 = H at hP hS ⊢
  have hP : va_P D vwCl [(h0, .inr (4, [.ref tp, .long nk, .int fr, .int 0, .int (-1), .ref cd, .int 0, .int vl])), (tp, .inr (6, [.int 0, .int 0, .int 0, .int 0, .ref bb]))] H := hP
  have hD : va_D A [(h0, .inr (4, [.ref tp, .long nk, .int fr, .int 0, .int (-1), .ref cd, .int 0, .int vl])), (tp, .inr (6, [.int 0, .int 0, .int 0, .int 0, .ref bb]))] := hD
  have hK : va_K D vwCl [] s := hK
  refine lv_aload_n hx hb dX4_read_22 rfl (lv_at hl 0 rfl) ?_
  have hPc := hP.sub (ws' := [(h0, .inr (4, [.ref tp, .long nk, .int fr, .int 0, .int (-1), .ref cd, .int 0, .int vl])), (tp, .inr (6, [.int 0, .int 0, .int 0, .int 0, .ref bb]))]) [0, 1] rfl
  have hDc := hD.sub (ws' := [(h0, .inr (4, [.ref tp, .long nk, .int fr, .int 0, .int (-1), .ref cd, .int 0, .int vl])), (tp, .inr (6, [.int 0, .int 0, .int 0, .int 0, .ref bb]))]) [0, 1] (by decide) rfl
  have hKc := hK.sub (tys' := []) [] rfl
  have hFc := va_free (wc := [(h0, .inr (4, [.ref tp, .long nk, .int fr, .int 0, .int (-1), .ref cd, .int 0, .int vl])), (tp, .inr (6, [.int 0, .int 0, .int 0, .int 0, .ref bb]))]) hD hS hA [0, 1] rfl
  refine va_calli (va_runV (As := []) (rest := []) ⟨hx, hb, hml, hown, hts⟩ (q_X4_readName l D h0 tp bb cd nk fr 0 (-1) 0 vl H.size) (cwV 0 hts gX4_read_X4_readName rfl rfl rfl (by decide +kernel) ⟨Nat.le_of_ble_eq_true rfl, Nat.le_of_ble_eq_true rfl⟩) ⟨fun a U g mk q => by obtain ⟨q0, q1, qP, qK, qD⟩ := q; exact ⟨q0, q1, qP, va_K.moved (u := U) (U := U.calling g mk a) (Vm.Alike.refl U.vm) qK, qD⟩, va_recv hKc hPc (ci := 4) (q0 := 0) rfl rfl, fun U hU hW => ⟨rfl, by rw [hU], by rw [hU]; exact hPc, va_K.moved hW.alike hKc, hDc.weaken (fun _ _ _ _ => trivial)⟩⟩ rfl rfl hl.1 rfl (lv_room (Nat.le_of_ble_eq_true rfl)) dX4_read_23 ⟨Nat.le_of_ble_eq_true rfl, Nat.le_of_ble_eq_true rfl⟩) hS (fun q _ h => hFc q h) hFc (fun r_3 u t H1 locs ht hvm w_4 hB hz1 hk1 hS => ?_)
  obtain ⟨hP1, hK1, hD1⟩ := hB
  rw [ht] at hP1
  have hK1 := va_K.moved hvm.symm hK1
  obtain ⟨hP, hD⟩ := va_join (wr := []) (w1 := [(tp, .inr (6, [.int 0, .int 0, .int 0, .int 0, .ref bb])), (h0, .inr (4, [.ref tp, .long nk, .int fr, .int 1, .int 0, .ref cd, .int 0, .int vl]))]) hP hD [0, 1] [] rfl rfl (by decide) (by decide) hk1 hFc hP1 hD1
  have hK := hK.app hK1
  generalize H1 = H at hP hS ⊢
  have hP : va_P D vwCl [(tp, .inr (6, [.int 0, .int 0, .int 0, .int 0, .ref bb])), (h0, .inr (4, [.ref tp, .long nk, .int fr, .int 1, .int 0, .ref cd, .int 0, .int vl]))] H := hP
  have hD : va_D A [(tp, .inr (6, [.int 0, .int 0, .int 0, .int 0, .ref bb])), (h0, .inr (4, [.ref tp, .long nk, .int fr, .int 1, .int 0, .ref cd, .int 0, .int vl]))] := hD
  have hK : va_K D vwCl [] s := hK
  subst w_4
  refine lv_if_eq (tgt := 46) hx hb dX4_read_26 (by decide) (fun c_5 => ?_) (fun c_5 => absurd (by decide) c_5)
  refine lv_iconst (v := 0) hx hb dX4_read_46 (by decide) ?_
  have hP9 := hP.sub (ws' := [(tp, .inr (6, [.int 0, .int 0, .int 0, .int 0, .ref bb])), (h0, .inr (4, [.ref tp, .long nk, .int fr, .int 1, .int 0, .ref cd, .int 0, .int vl]))]) [0, 1] rfl
  have hD9 := hD.sub (ws' := [(tp, .inr (6, [.int 0, .int 0, .int 0, .int 0, .ref bb])), (h0, .inr (4, [.ref tp, .long nk, .int fr, .int 1, .int 0, .ref cd, .int 0, .int vl]))]) [0, 1] (by decide) rfl
  have hK9 := hK.sub (tys' := []) [] rfl
  refine W.widen (k := 0) (n := 0) (by omega) (by omega) ?_
  exact W.zret (v := 0) hx hb hr rfl (fun t ht hW => ⟨⟨0, (), rfl, rfl, by rw [ht]; exact hP9, va_K.moved hW.alike hK9, hD9⟩, hS.F ht⟩) hS.2.2 dX4_read_47
set_option maxHeartbeats 4000000 in
set_option maxRecDepth 100000 in
theorem q_X8_rule (l : Launch) (D : va_G) (h0 rd tp bb cd : Nat) (fs : List Value) (sz : Nat) (f5 : fs[5]? = some (.ref rd)) : Met l yX8_rule wsX8_rule ({ frames := 4, cells := 0, slots := 0, locals := 83 }) (va_Pc [.ref h0] (fun U => U.heap.size = sz ∧ va_P D vwCl [(h0, .inr (8, fs)), (rd, .inr (4, [.ref tp, .long 0, .int 0, .int 0, .int (-1), .ref cd, .int 0, .int 0])), (tp, .inr (6, [.int 0, .int 0, .int 0, .int 0, .ref bb]))] U.heap ∧ va_K D vwCl [] U ∧ va_D (fun _ => True) [(h0, .inr (8, fs)), (rd, .inr (4, [.ref tp, .long 0, .int 0, .int 0, .int (-1), .ref cd, .int 0, .int 0])), (tp, .inr (6, [.int 0, .int 0, .int 0, .int 0, .ref bb]))])) (va_Qi (fun (r : Int32) (_ : Unit) => r = (-1)) (fun (_ : Unit) (t : State) => va_P D vwCl [] t.heap ∧ va_K D vwCl [] t ∧ va_D (va_A [(h0, .inr (8, fs)), (rd, .inr (4, [.ref tp, .long 0, .int 0, .int 0, .int (-1), .ref cd, .int 0, .int 0])), (tp, .inr (6, [.int 0, .int 0, .int 0, .int 0, .ref bb]))] sz) []) (va_A [(h0, .inr (8, fs)), (rd, .inr (4, [.ref tp, .long 0, .int 0, .int 0, .int (-1), .ref cd, .int 0, .int 0])), (tp, .inr (6, [.int 0, .int 0, .int 0, .int 0, .ref bb]))] sz)) 0 0 (va_A [(h0, .inr (8, fs)), (rd, .inr (4, [.ref tp, .long 0, .int 0, .int 0, .int (-1), .ref cd, .int 0, .int 0])), (tp, .inr (6, [.int 0, .int 0, .int 0, .int 0, .ref bb]))] sz) := by
  refine Met.ofW (cc := cX8_rule) (maxL := 2) (ret := (some .int)) (by decide) rfl ?_
  intro p e s m args below meth c s₁ B hml hv
  obtain ⟨rfl, hsz, hP, hK, hD0⟩ := hv
  have hx := B.exec
  have hb := B.bytes
  have hr := B.returns
  have hts := atoms_spec (ws := wsX8_rule) B.pre
  have hown : s.vm.findClass RX8 = some m.cls := findClass_of_methodNamed B.named
  have hlocks := B.notSynchronized
  subst hsz
  have hD := hD0.self (sz := s.heap.size)
  generalize hAe : va_A [(h0, .inr (8, fs)), (rd, .inr (4, [.ref tp, .long 0, .int 0, .int 0, .int (-1), .ref cd, .int 0, .int 0])), (tp, .inr (6, [.int 0, .int 0, .int 0, .int 0, .ref bb]))] s.heap.size = A at hD ⊢
  have hA : ∀ q : Nat, s.heap.size ≤ q → A q := fun q h => by rw [← hAe]; exact Or.inr h
  have hS : va_S A s.heap s.heap [] := va_S.rf
  have hP : va_P D vwCl [(h0, .inr (8, fs)), (rd, .inr (4, [.ref tp, .long 0, .int 0, .int 0, .int (-1), .ref cd, .int 0, .int 0])), (tp, .inr (6, [.int 0, .int 0, .int 0, .int 0, .ref bb]))] s.heap := hP
  have hin4 : ∀ w ∈ u_ws RX4 TX4 8, w ∈ wsX8_rule := (fun _ h9 => List.mem_cons_of_mem _ (List.mem_append_left _ (List.mem_append_left _ ((List.mem_append_right _ h9)))))
  have hin6 : ∀ w ∈ u_ws RX6 TX6 5, w ∈ wsX8_rule := (fun _ h9 => List.mem_cons_of_mem _ (List.mem_append_left _ ((List.mem_append_right _ h9))))
  have hin8 : ∀ w ∈ u_ws RX8 TX8 15, w ∈ wsX8_rule := (fun _ h9 => List.mem_cons_of_mem _ (List.mem_append_left _ (List.mem_append_left _ (List.mem_append_left _ ((List.mem_append_right _ h9))))))
  have hl := lv_entry ([.ref h0]) (n := 2) (Nat.le_of_ble_eq_true rfl)
  rw [lg_entry_eq]
  generalize (lg_sl ([.ref h0]) ++ List.replicate (2 - (lg_sl ([.ref h0])).length) Slot.unset).toArray = ls at hl ⊢
  have hl : lv_has ls 2 [(0, .ref h0)] := hl
  refine lv_aload_n hx hb dX8_rule_0 rfl (lv_at hl 0 rfl) ?_
  refine va_get (D := D) (ci := 8) (v := .ref rd) (C := RX8) (T := TX8) (N := 15) hx hb hts hin8 hown hK hP 0 rfl rfl 5 (by decide) (hts (.fieldLink RX8 40 "HoneyHouse" "reader" "LHoneyHouse$RuleReader;") (List.mem_of_getElem? (i := 1) rfl)) (fun _ h9 => h9) f5 dX8_rule_1 ?_
  have hPc := hP.sub (ws' := [(rd, .inr (4, [.ref tp, .long 0, .int 0, .int 0, .int (-1), .ref cd, .int 0, .int 0])), (tp, .inr (6, [.int 0, .int 0, .int 0, .int 0, .ref bb]))]) [1, 2] rfl
  have hDc := hD.sub (ws' := [(rd, .inr (4, [.ref tp, .long 0, .int 0, .int 0, .int (-1), .ref cd, .int 0, .int 0])), (tp, .inr (6, [.int 0, .int 0, .int 0, .int 0, .ref bb]))]) [1, 2] (by decide) rfl
  have hKc := hK.sub (tys' := []) [] rfl
  have hFc := va_free (wc := [(rd, .inr (4, [.ref tp, .long 0, .int 0, .int 0, .int (-1), .ref cd, .int 0, .int 0])), (tp, .inr (6, [.int 0, .int 0, .int 0, .int 0, .ref bb]))]) hD hS hA [1, 2] rfl
  refine va_calli (va_runV (As := []) (rest := []) ⟨hx, hb, hml, hown, hts⟩ (q_X4_read l D rd tp bb cd 0 0 0 (-1) 0 0 0 0 0 s.heap.size) (cwV 0 hts gX8_rule_X4_read rfl rfl rfl (by decide +kernel) ⟨Nat.le_of_ble_eq_true rfl, Nat.le_of_ble_eq_true rfl⟩) ⟨fun a U g mk q => by obtain ⟨q0, q1, qP, qK, qD⟩ := q; exact ⟨q0, q1, qP, va_K.moved (u := U) (U := U.calling g mk a) (Vm.Alike.refl U.vm) qK, qD⟩, va_recv hKc hPc (ci := 4) (q0 := 0) rfl rfl, fun U hU hW => ⟨rfl, by rw [hU], by rw [hU]; exact hPc, va_K.moved hW.alike hKc, hDc.weaken (fun _ _ _ _ => trivial)⟩⟩ rfl rfl hl.1 rfl (lv_room (Nat.le_of_ble_eq_true rfl)) dX8_rule_4 ⟨Nat.le_of_ble_eq_true rfl, Nat.le_of_ble_eq_true rfl⟩) hS (fun q _ h => hFc q h) hFc (fun r_1 u t H1 locs ht hvm w_2 hB hz1 hk1 hS => ?_)
  obtain ⟨hP1, hK1, hD1⟩ := hB
  rw [ht] at hP1
  have hK1 := va_K.moved hvm.symm hK1
  obtain ⟨hP, hD⟩ := va_join (wr := [(h0, .inr (8, fs))]) (w1 := [(tp, .inr (6, [.int 0, .int 0, .int 0, .int 0, .ref bb])), (rd, .inr (4, [.ref tp, .long 0, .int 0, .int 1, .int 0, .ref cd, .int 0, .int 0]))]) hP hD [1, 2] [0] rfl rfl (by decide) (by decide) hk1 hFc hP1 hD1
  have hK := hK.app hK1
  generalize H1 = H at hP hS ⊢
  have hP : va_P D vwCl [(h0, .inr (8, fs)), (tp, .inr (6, [.int 0, .int 0, .int 0, .int 0, .ref bb])), (rd, .inr (4, [.ref tp, .long 0, .int 0, .int 1, .int 0, .ref cd, .int 0, .int 0]))] H := hP
  have hD : va_D A [(h0, .inr (8, fs)), (tp, .inr (6, [.int 0, .int 0, .int 0, .int 0, .ref bb])), (rd, .inr (4, [.ref tp, .long 0, .int 0, .int 1, .int 0, .ref cd, .int 0, .int 0]))] := hD
  have hK : va_K D vwCl [] s := hK
  subst w_2
  refine lv_istore_n (lv' := [(1, .int 0), (0, .ref h0)]) hx hb dX8_rule_7 rfl hl (by decide) rfl (fun ls hl => ?_)
  refine lv_aload_n hx hb dX8_rule_8 rfl (lv_at hl 1 rfl) ?_
  refine va_get (D := D) (ci := 8) (v := .ref rd) (C := RX8) (T := TX8) (N := 15) hx hb hts hin8 hown hK hP 0 rfl rfl 5 (by decide) (hts (.fieldLink RX8 40 "HoneyHouse" "reader" "LHoneyHouse$RuleReader;") (List.mem_of_getElem? (i := 1) rfl)) (fun _ h9 => h9) f5 dX8_rule_9 ?_
  refine va_get (D := D) (ci := 4) (v := .ref tp) (C := RX4) (T := TX4) (N := 8) hx hb hts hin4 hown hK hP 2 rfl rfl 0 (by decide) (hts (.fieldLink RX8 68 "HoneyHouse$RuleReader" "tape" "LHoneyHouse$Tape;") (List.mem_of_getElem? (i := 2) rfl)) (fun _ h9 => h9) rfl dX8_rule_12 ?_
  refine lv_iconst (v := 0) hx hb dX8_rule_15 (by decide) ?_
  refine va_put (D := D) (ci := 6) (v := .int 0) (ty := .int) (C := RX6) (T := TX6) (N := 5) hx hb hts hin6 tyX6 tyX6_ok nmX6 hown hK hP hD hS 1 rfl rfl 0 (by decide) (hts (.fieldLink RX8 72 "HoneyHouse$Tape" "length" "I") (List.mem_of_getElem? (i := 3) rfl)) (fun _ h9 => h9) rfl (tyX6_ok 0 (by decide)) rfl rfl (Nat.le_of_ble_eq_true rfl) dX8_rule_16 (fun H locs hP hD hS => ?_)
  have hP : va_P D vwCl [(h0, .inr (8, fs)), (tp, .inr (6, [.int 0, .int 0, .int 0, .int 0, .ref bb])), (rd, .inr (4, [.ref tp, .long 0, .int 0, .int 1, .int 0, .ref cd, .int 0, .int 0]))] H := hP
  have hD : va_D A [(h0, .inr (8, fs)), (tp, .inr (6, [.int 0, .int 0, .int 0, .int 0, .ref bb])), (rd, .inr (4, [.ref tp, .long 0, .int 0, .int 1, .int 0, .ref cd, .int 0, .int 0]))] := hD
  refine lv_iload_n hx hb dX8_rule_19 rfl (lv_at hl 0 rfl) ?_
  refine lv_if_ne (tgt := 25) hx hb dX8_rule_20 (by decide) (fun c_3 => absurd (by decide) c_3) (fun c_3 => ?_)
  refine lv_iconst (v := (-1)) hx hb dX8_rule_23 (by decide) ?_
  have hP9 := hP.sub (ws' := []) [] rfl
  have hD9 := hD.sub (ws' := []) [] (by decide) rfl
  have hK9 := hK.sub (tys' := []) [] rfl
  refine W.widen (k := 0) (n := 0) (by omega) (by omega) ?_
  exact W.iret (v := (-1)) hx hb hr (fun t ht hW => ⟨⟨(-1), (), rfl, rfl, by rw [ht]; exact hP9, va_K.moved hW.alike hK9, hD9⟩, hS.F ht⟩) hS.2.2 dX8_rule_24
