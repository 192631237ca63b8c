theorem dX4_read_0 : decode cX4_read 0 = .ok (.aload_n 0, 1) := by decide +kernel
theorem dX4_read_1 : decode cX4_read 1 = .ok (.iconst 0, 1) := by decide +kernel
theorem dX4_read_2 : decode cX4_read 2 = .ok (.putfield 26, 3) := by decide +kernel
theorem dX4_read_5 : decode cX4_read 5 = .ok (.aload_n 0, 1) := by decide +kernel
theorem dX4_read_6 : decode cX4_read 6 = .ok (.iconst (-1), 1) := by decide +kernel
theorem dX4_read_7 : decode cX4_read 7 = .ok (.putfield 18, 3) := by decide +kernel
theorem dX4_read_10 : decode cX4_read 10 = .ok (.aload_n 0, 1) := by decide +kernel
theorem dX4_read_11 : decode cX4_read 11 = .ok (.iconst 0, 1) := by decide +kernel
theorem dX4_read_12 : decode cX4_read 12 = .ok (.putfield 29, 3) := by decide +kernel
theorem dX4_read_15 : decode cX4_read 15 = .ok (.aload_n 0, 1) := by decide +kernel
theorem dX4_read_16 : decode cX4_read 16 = .ok (.getfield 12, 3) := by decide +kernel
theorem dX4_read_19 : decode cX4_read 19 = .ok (.invokevirtual 32, 3) := by decide +kernel
theorem dX4_read_22 : decode cX4_read 22 = .ok (.aload_n 0, 1) := by decide +kernel
theorem dX4_read_23 : decode cX4_read 23 = .ok (.invokevirtual 35, 3) := by decide +kernel
theorem dX4_read_26 : decode cX4_read 26 = .ok (.ifCond .eq 20, 3) := by decide +kernel
theorem dX4_read_29 : decode cX4_read 29 = .ok (.aload_n 0, 1) := by decide +kernel
theorem dX4_read_30 : decode cX4_read 30 = .ok (.bipush 58, 2) := by decide +kernel
theorem dX4_read_32 : decode cX4_read 32 = .ok (.invokevirtual 39, 3) := by decide +kernel
theorem dX4_read_35 : decode cX4_read 35 = .ok (.ifCond .eq 11, 3) := by decide +kernel
theorem dX4_read_38 : decode cX4_read 38 = .ok (.aload_n 0, 1) := by decide +kernel
theorem dX4_read_39 : decode cX4_read 39 = .ok (.iconst 0, 1) := by decide +kernel
theorem dX4_read_40 : decode cX4_read 40 = .ok (.invokevirtual 43, 3) := by decide +kernel
theorem dX4_read_43 : decode cX4_read 43 = .ok (.ifCond .ne 5, 3) := by decide +kernel
theorem dX4_read_46 : decode cX4_read 46 = .ok (.iconst 0, 1) := by decide +kernel
theorem dX4_read_47 : decode cX4_read 47 = .ok (.ireturn, 1) := by decide +kernel
theorem dX4_read_48 : decode cX4_read 48 = .ok (.aload_n 0, 1) := by decide +kernel
theorem dX4_read_49 : decode cX4_read 49 = .ok (.ldc 47, 2) := by decide +kernel
theorem dX4_read_51 : decode cX4_read 51 = .ok (.invokevirtual 49, 3) := by decide +kernel
theorem dX4_read_54 : decode cX4_read 54 = .ok (.ifCond .eq 13, 3) := by decide +kernel
theorem dX4_read_57 : decode cX4_read 57 = .ok (.aload_n 0, 1) := by decide +kernel
theorem dX4_read_58 : decode cX4_read 58 = .ok (.sipush 30000, 3) := by decide +kernel
theorem dX4_read_61 : decode cX4_read 61 = .ok (.invokevirtual 53, 3) := by decide +kernel
theorem dX4_read_64 : decode cX4_read 64 = .ok (.ifCond .ne 5, 3) := by decide +kernel
theorem dX4_read_67 : decode cX4_read 67 = .ok (.iconst 0, 1) := by decide +kernel
theorem dX4_read_68 : decode cX4_read 68 = .ok (.ireturn, 1) := by decide +kernel
theorem dX4_read_69 : decode cX4_read 69 = .ok (.aload_n 0, 1) := by decide +kernel
theorem dX4_read_70 : decode cX4_read 70 = .ok (.aload_n 0, 1) := by decide +kernel
theorem dX4_read_71 : decode cX4_read 71 = .ok (.getfield 56, 3) := by decide +kernel
theorem dX4_read_74 : decode cX4_read 74 = .ok (.putfield 59, 3) := by decide +kernel
theorem dX4_read_77 : decode cX4_read 77 = .ok (.aload_n 0, 1) := by decide +kernel
theorem dX4_read_78 : decode cX4_read 78 = .ok (.bipush 59, 2) := by decide +kernel
theorem dX4_read_80 : decode cX4_read 80 = .ok (.invokevirtual 39, 3) := by decide +kernel
theorem dX4_read_83 : decode cX4_read 83 = .ok (.ifCond .eq 24, 3) := by decide +kernel
theorem dX4_read_86 : decode cX4_read 86 = .ok (.aload_n 0, 1) := by decide +kernel
theorem dX4_read_87 : decode cX4_read 87 = .ok (.getfield 12, 3) := by decide +kernel
theorem dX4_read_90 : decode cX4_read 90 = .ok (.getfield 61, 3) := by decide +kernel
theorem dX4_read_93 : decode cX4_read 93 = .ok (.ifCond .eq 10, 3) := by decide +kernel
theorem dX4_read_96 : decode cX4_read 96 = .ok (.aload_n 0, 1) := by decide +kernel
theorem dX4_read_97 : decode cX4_read 97 = .ok (.invokevirtual 64, 3) := by decide +kernel
theorem dX4_read_100 : decode cX4_read 100 = .ok (.ifCond .eq 7, 3) := by decide +kernel
theorem dX4_read_103 : decode cX4_read 103 = .ok (.iconst 1, 1) := by decide +kernel
theorem dX4_read_104 : decode cX4_read 104 = .ok (.goto 4, 3) := by decide +kernel
theorem dX4_read_107 : decode cX4_read 107 = .ok (.iconst 0, 1) := by decide +kernel
theorem dX4_read_108 : decode cX4_read 108 = .ok (.ireturn, 1) := by decide +kernel
set_option maxRecDepth 20000 in
theorem ggX4_read_X6_rewind : GoodIn wsX4_read wsX6_rewind := goodIn_r _ [12, 13, 14, 15, 16, 11, 17, 18, 19, 20, 21, 22, 23, 24, 25, 26, 27, 28, 164, 165, 166, 167, 168] (by decide +kernel) (by decide +kernel)
set_option maxRecDepth 20000 in
theorem gX4_read_X6_rewind : GoodIn wsX4_read (wsV RX4 32 RX6 yX6_rewind wsX6_rewind) := goodIn_app (goodIn_of _ (by decide +kernel)) ggX4_read_X6_rewind
set_option maxRecDepth 20000 in
theorem ggX4_read_X4_readName : GoodIn wsX4_read wsX4_readName := goodIn_r _ [33, 4, 7, 34, 35, 36, 37, 38, 39, 32, 40, 41, 42, 43, 11, 44, 20, 13, 19, 45, 46, 47, 48, 49, 50, 51, 52, 53, 54, 55, 56, 21, 22, 23, 24, 18, 25, 57, 58, 59, 60, 61, 62, 63, 64, 65, 66, 67, 68, 69, 70, 71, 72, 73, 74, 75, 76, 77, 78, 79, 80, 81, 82, 83, 84, 85, 86, 87, 88, 89, 90, 91, 92, 93, 94, 95, 96, 97, 98, 99, 100, 101, 102, 103, 104, 105, 1, 2, 106, 107, 108, 109, 110, 111, 15, 16, 17, 26, 27, 28, 156, 157, 158, 159, 160, 161, 162, 163, 164, 165, 166, 167, 168] (by decide +kernel) (by decide +kernel)
set_option maxRecDepth 20000 in
theorem gX4_read_X4_readName : GoodIn wsX4_read (wsV RX4 35 RX4 yX4_readName wsX4_readName) := goodIn_app (goodIn_of _ (by decide +kernel)) ggX4_read_X4_readName
set_option maxRecDepth 20000 in
theorem ggX4_read_X4_readByte : GoodIn wsX4_read wsX4_readByte := goodIn_r _ [115, 4, 116, 117, 118, 11, 119, 20, 19, 21, 22, 23, 24, 18, 25, 98, 99, 100, 32, 101, 35, 102, 103, 104, 105, 1, 2, 111, 15, 16, 17, 13, 26, 27, 28, 156, 157, 158, 159, 160, 161, 162, 163, 164, 165, 166, 167, 168] (by decide +kernel) (by decide +kernel)
set_option maxRecDepth 20000 in
theorem gX4_read_X4_readByte : GoodIn wsX4_read (wsV RX4 39 RX4 yX4_readByte wsX4_readByte) := goodIn_app (goodIn_of _ (by decide +kernel)) ggX4_read_X4_readByte
set_option maxRecDepth 20000 in
theorem ggX4_read_X4_readEither : GoodIn wsX4_read wsX4_readEither := goodIn_r _ [123, 4, 124, 125, 126, 32, 127, 128, 129, 130, 41, 42, 43, 11, 44, 20, 13, 19, 45, 46, 47, 48, 49, 50, 51, 52, 53, 54, 55, 56, 21, 22, 23, 24, 18, 25, 57, 58, 59, 60, 61, 62, 63, 64, 65, 66, 67, 68, 69, 70, 71, 72, 73, 74, 75, 76, 77, 78, 79, 80, 81, 82, 83, 84, 85, 86, 87, 88, 89, 90, 91, 92, 93, 131, 132, 133, 134, 3, 135, 111, 15, 16, 17, 26, 27, 28, 136, 35, 116, 117, 118, 119, 137, 138, 139, 140, 5, 94, 95, 96, 97, 98, 99, 100, 101, 102, 103, 104, 105, 1, 2, 141, 142, 143, 144, 7, 34, 145, 146, 147, 148, 149, 150, 151, 120, 121, 122, 112, 113, 114, 115, 156, 157, 158, 159, 160, 161, 162, 163, 164, 165, 166, 167, 168] (by decide +kernel) (by decide +kernel)
set_option maxRecDepth 20000 in
theorem gX4_read_X4_readEither : GoodIn wsX4_read (wsV RX4 43 RX4 yX4_readEither wsX4_readEither) := goodIn_app (goodIn_of _ (by decide +kernel)) ggX4_read_X4_readEither
set_option maxRecDepth 20000 in
theorem ggX4_read_X4_readWord : GoodIn wsX4_read wsX4_readWord := goodIn_r _ [155, 4, 41, 42, 43, 11, 44, 20, 13, 19, 45, 46, 47, 48, 49, 50, 51, 52, 53, 54, 55, 56, 21, 22, 23, 24, 18, 25, 57, 58, 59, 60, 61, 62, 63, 64, 65, 66, 67, 68, 69, 70, 71, 72, 73, 74, 75, 76, 77, 78, 79, 80, 81, 82, 83, 84, 85, 86, 87, 88, 89, 90, 91, 92, 93, 98, 99, 100, 32, 101, 35, 102, 103, 104, 105, 1, 2, 111, 15, 16, 17, 26, 27, 28, 156, 157, 158, 159, 160, 161, 162, 163, 164, 165, 166, 167, 168] (by decide +kernel) (by decide +kernel)
set_option maxRecDepth 20000 in
theorem gX4_read_X4_readWord : GoodIn wsX4_read (wsV RX4 49 RX4 yX4_readWord wsX4_readWord) := goodIn_app (goodIn_of _ (by decide +kernel)) ggX4_read_X4_readWord
set_option maxRecDepth 20000 in
theorem ggX4_read_X4_readNumber : GoodIn wsX4_read wsX4_readNumber := goodIn_r _ [144, 4, 7, 34, 35, 5, 98, 99, 100, 32, 101, 102, 103, 104, 105, 1, 2, 145, 146, 147, 11, 148, 19, 13, 21, 22, 23, 24, 18, 25, 111, 15, 16, 17, 20, 26, 27, 28, 156, 157, 158, 159, 160, 161, 162, 163, 164, 165, 166, 167, 168] (by decide +kernel) (by decide +kernel)
set_option maxRecDepth 20000 in
theorem gX4_read_X4_readNumber : GoodIn wsX4_read (wsV RX4 53 RX4 yX4_readNumber wsX4_readNumber) := goodIn_app (goodIn_of _ (by decide +kernel)) ggX4_read_X4_readNumber
set_option maxRecDepth 20000 in
theorem ggX4_read_X4_failHere : GoodIn wsX4_read wsX4_failHere := goodIn_r _ [101, 4, 35, 102, 103, 104, 32, 105, 1, 2, 156, 157, 158, 159, 160, 161, 162, 163, 164, 165, 166, 167, 168] (by decide +kernel) (by decide +kernel)
set_option maxRecDepth 20000 in
theorem gX4_read_X4_failHere : GoodIn wsX4_read (wsV RX4 64 RX4 yX4_failHere wsX4_failHere) := goodIn_app (goodIn_of _ (by decide +kernel)) ggX4_read_X4_failHere
set_option maxHeartbeats 4000000 in
set_option maxRecDepth 100000 in
theorem r_read (l : Launch) (D : va_G) (ws : va_W) (tys : List (ClassId × FieldType)) (adK adV : Nat → Nat) (fo : Option Nat) (rd krd tp ktp tl : Nat) (r1 : Int64) (r2 r3 r4 r6 r7 y1 y2 y3 : Int32) (bb kbb : Nat) (cbb : ClassId) (tbb : Nat) (fbb : Nat → Int32) (cd kcd : Nat) (ccd : ClassId) (tcd : Nat) (fcd : Nat → Int32) (sz : Nat) (htl : tl ≤ 400) (erd : ws[krd]? = some (rd, .inr (4, [.ref tp, .long r1, .int r2, .int r3, .int r4, .ref cd, .int r6, .int r7]))) (etp : ws[ktp]? = some (tp, .inr (6, [.int (nI tl), .int y1, .int y2, .int y3, .ref bb]))) (ebb : ws[kbb]? = some (bb, .inl (cbb, 400, .inl fbb))) (ubb : tys[tbb]? = some (cbb, .int)) (ecd : ws[kcd]? = some (cd, .inl (ccd, 200, .inl fcd))) (ucd : tys[tcd]? = some (ccd, .int)) : Met l yX4_read wsX4_read ({ frames := 21, cells := 0, slots := 0, locals := 485 }) (va_Pc [.ref rd] (fun U => U.heap.size = sz ∧ va_P D vwCl ws U.heap ∧ va_K D vwCl tys U ∧ va_D (fun _ => True) ws ∧ SZ adK adV fo (va_A ws sz) U U.heap)) (va_Qi (fun (r : Int32) (_ : Unit) => r = 0 ∨ r = 1) (fun (_ : Unit) (t : State) => ∃ (ws' : va_W) (tys' : List (ClassId × FieldType)), sm [4, 6] ws ws' ∧ tyx tys tys' ∧ va_P D vwCl ws' t.heap ∧ va_K D vwCl tys' t ∧ va_D (va_A ws sz) ws' ∧ RS ws' tys' rd krd tp ktp cd bb tl) (va_A ws sz)) 0 0 (va_A ws sz) := by
  refine Met.ofW (cc := cX4_read) (maxL := 1) (ret := (some .boolean)) (by decide) rfl ?_
  intro p e s m args below meth c s₁ B hml hv
  obtain ⟨rfl, hsz, hP, hK, hD0, hsz9⟩ := hv
  have hx := B.exec
  have hb := B.bytes
  have hr := B.returns
  have hts := atoms_spec (ws := wsX4_read) B.pre
  have hown : s.vm.findClass RX4 = some m.cls := findClass_of_methodNamed B.named
  have hlocks := B.notSynchronized
  subst hsz
  have hD := hD0.self (sz := s.heap.size)
  generalize hAe : va_A ws s.heap.size = A at hD hsz9 ⊢
  have hA : ∀ q : Nat, s.heap.size ≤ q → A q := fun q h => by rw [← hAe]; exact Or.inr h
  have hS : va_S A s.heap s.heap [] := va_S.rf
  have hsm : sm [4, 6] ws ws := sm.rf ws
  have htx : tyx tys tys := tyx.rf tys
  have hin4 : ∀ w ∈ u_ws RX4 TX4 8, w ∈ wsX4_read := (fun _ h9 => List.mem_cons_of_mem _ (List.mem_append_left _ ((List.mem_append_right _ h9))))
  have hin6 : ∀ w ∈ u_ws RX6 TX6 5, w ∈ wsX4_read := (fun _ h9 => List.mem_cons_of_mem _ ((List.mem_append_right _ h9)))
  have hl := lv_entry ([.ref rd]) (n := 1) (Nat.le_of_ble_eq_true rfl)
  rw [lg_entry_eq]
  generalize (lg_sl ([.ref rd]) ++ List.replicate (1 - (lg_sl ([.ref rd])).length) Slot.unset).toArray = ls at hl ⊢
  have hl : lv_has ls 1 [(0, .ref rd)] := hl
  refine lv_aload_n hx hb dX4_read_0 rfl (lv_at hl 0 rfl) ?_
  refine lv_iconst (v := 0) hx hb dX4_read_1 (by decide) ?_
  refine va_put (D := D) (ci := 4) (v := .int 0) (ty := .int) (C := RX4) (T := TX4) (N := 8) hx hb hts hin4 tyX4 tyX4_ok nmX4 hown hK hP hD hS krd erd rfl 3 (by decide) (hts (.fieldLink RX4 26 "HoneyHouse$RuleReader" "faultKind" "I") (List.mem_of_getElem? (i := 1) rfl)) (fun _ h9 => h9) rfl (tyX4_ok 3 (by decide)) rfl rfl (Nat.le_of_ble_eq_true rfl) dX4_read_2 (fun H locs hP hD hS => ?_)
  have hP : va_P D vwCl (ws.set krd (rd, .inr (4, [.ref tp, .long r1, .int r2, .int 0, .int r4, .ref cd, .int r6, .int r7]))) H := hP
  have hD : va_D A (ws.set krd (rd, .inr (4, [.ref tp, .long r1, .int r2, .int 0, .int r4, .ref cd, .int r6, .int r7]))) := hD
  have hm_2 : sm [4] ws (ws.set krd (rd, .inr (4, [.ref tp, .long r1, .int r2, .int 0, .int r4, .ref cd, .int r6, .int r7]))) := sm.flds erd (smF.c (smV.rf _) (smF.c (smV.rf _) (smF.c (smV.rf _) (smF.c (smV.i _ _) (smF.c (smV.rf _) (smF.c (smV.rf _) (smF.c (smV.rf _) (smF.c (smV.rf _) (rfl))))))))) (List.mem_singleton.mpr rfl)
  have e_3 : (ws.set krd (rd, .inr (4, [.ref tp, .long r1, .int r2, .int 0, .int r4, .ref cd, .int r6, .int r7])))[krd]? = some (rd, .inr (4, [.ref tp, .long r1, .int r2, .int 0, .int r4, .ref cd, .int r6, .int r7])) := wset_self erd
  generalize ws.set krd (rd, .inr (4, [.ref tp, .long r1, .int r2, .int 0, .int r4, .ref cd, .int r6, .int r7])) = ws_1 at hP hD hm_2 e_3
  have e_4 := hm_2.objK etp (by decide)
  obtain ⟨f_6, e_5⟩ := hm_2.arrI ebb
  obtain ⟨f_8, e_7⟩ := hm_2.arrI ecd
  have hsm := hsm.tr (hm_2.mono (by decide))
  refine lv_aload_n hx hb dX4_read_5 rfl (lv_at hl 0 rfl) ?_
  refine lv_iconst (v := (-1)) hx hb dX4_read_6 (by decide) ?_
  refine va_put (D := D) (ci := 4) (v := .int (-1)) (ty := .int) (C := RX4) (T := TX4) (N := 8) hx hb hts hin4 tyX4 tyX4_ok nmX4 hown hK hP hD hS krd e_3 rfl 4 (by decide) (hts (.fieldLink RX4 18 "HoneyHouse$RuleReader" "faultPlace" "I") (List.mem_of_getElem? (i := 2) rfl)) (fun _ h9 => h9) rfl (tyX4_ok 4 (by decide)) rfl rfl (Nat.le_of_ble_eq_true rfl) dX4_read_7 (fun H locs hP hD hS => ?_)
  have hP : va_P D vwCl (ws_1.set krd (rd, .inr (4, [.ref tp, .long r1, .int r2, .int 0, .int (-1), .ref cd, .int r6, .int r7]))) H := hP
  have hD : va_D A (ws_1.set krd (rd, .inr (4, [.ref tp, .long r1, .int r2, .int 0, .int (-1), .ref cd, .int r6, .int r7]))) := hD
  have hm_10 : sm [4] ws_1 (ws_1.set krd (rd, .inr (4, [.ref tp, .long r1, .int r2, .int 0, .int (-1), .ref cd, .int r6, .int r7]))) := sm.flds e_3 (smF.c (smV.rf _) (smF.c (smV.rf _) (smF.c (smV.rf _) (smF.c (smV.rf _) (smF.c (smV.i _ _) (smF.c (smV.rf _) (smF.c (smV.rf _) (smF.c (smV.rf _) (rfl))))))))) (List.mem_singleton.mpr rfl)
  have e_11 : (ws_1.set krd (rd, .inr (4, [.ref tp, .long r1, .int r2, .int 0, .int (-1), .ref cd, .int r6, .int r7])))[krd]? = some (rd, .inr (4, [.ref tp, .long r1, .int r2, .int 0, .int (-1), .ref cd, .int r6, .int r7])) := wset_self e_3
  generalize ws_1.set krd (rd, .inr (4, [.ref tp, .long r1, .int r2, .int 0, .int (-1), .ref cd, .int r6, .int r7])) = ws_9 at hP hD hm_10 e_11
  have e_12 := hm_10.objK e_4 (by decide)
  obtain ⟨f_14, e_13⟩ := hm_10.arrI e_5
  obtain ⟨f_16, e_15⟩ := hm_10.arrI e_7
  have hsm := hsm.tr (hm_10.mono (by decide))
  refine lv_aload_n hx hb dX4_read_10 rfl (lv_at hl 0 rfl) ?_
  refine lv_iconst (v := 0) hx hb dX4_read_11 (by decide) ?_
  refine va_put (D := D) (ci := 4) (v := .int 0) (ty := .int) (C := RX4) (T := TX4) (N := 8) hx hb hts hin4 tyX4 tyX4_ok nmX4 hown hK hP hD hS krd e_11 rfl 6 (by decide) (hts (.fieldLink RX4 29 "HoneyHouse$RuleReader" "codeCount" "I") (List.mem_of_getElem? (i := 3) rfl)) (fun _ h9 => h9) rfl (tyX4_ok 6 (by decide)) rfl rfl (Nat.le_of_ble_eq_true rfl) dX4_read_12 (fun H locs hP hD hS => ?_)
  have hP : va_P D vwCl (ws_9.set krd (rd, .inr (4, [.ref tp, .long r1, .int r2, .int 0, .int (-1), .ref cd, .int 0, .int r7]))) H := hP
  have hD : va_D A (ws_9.set krd (rd, .inr (4, [.ref tp, .long r1, .int r2, .int 0, .int (-1), .ref cd, .int 0, .int r7]))) := hD
  have hm_18 : sm [4] ws_9 (ws_9.set krd (rd, .inr (4, [.ref tp, .long r1, .int r2, .int 0, .int (-1), .ref cd, .int 0, .int r7]))) := sm.flds e_11 (smF.c (smV.rf _) (smF.c (smV.rf _) (smF.c (smV.rf _) (smF.c (smV.rf _) (smF.c (smV.rf _) (smF.c (smV.rf _) (smF.c (smV.i _ _) (smF.c (smV.rf _) (rfl))))))))) (List.mem_singleton.mpr rfl)
  have e_19 : (ws_9.set krd (rd, .inr (4, [.ref tp, .long r1, .int r2, .int 0, .int (-1), .ref cd, .int 0, .int r7])))[krd]? = some (rd, .inr (4, [.ref tp, .long r1, .int r2, .int 0, .int (-1), .ref cd, .int 0, .int r7])) := wset_self e_11
  generalize ws_9.set krd (rd, .inr (4, [.ref tp, .long r1, .int r2, .int 0, .int (-1), .ref cd, .int 0, .int r7])) = ws_17 at hP hD hm_18 e_19
  have e_20 := hm_18.objK e_12 (by decide)
  obtain ⟨f_22, e_21⟩ := hm_18.arrI e_13
  obtain ⟨f_24, e_23⟩ := hm_18.arrI e_15
  have hsm := hsm.tr (hm_18.mono (by decide))
  refine lv_aload_n hx hb dX4_read_15 rfl (lv_at hl 0 rfl) ?_
  refine va_get (D := D) (ci := 4) (v := .ref tp) (C := RX4) (T := TX4) (N := 8) hx hb hts hin4 hown hK hP krd e_19 rfl 0 (by decide) (hts (.fieldLink RX4 12 "HoneyHouse$RuleReader" "tape" "LHoneyHouse$Tape;") (List.mem_of_getElem? (i := 4) rfl)) (fun _ h9 => h9) rfl dX4_read_16 ?_
  have hFc := free_all hD hS hA
  refine va_callv (va_runV (As := []) (rest := []) ⟨hx, hb, hml, hown, hts⟩ (a_rewind l D ws_17 tys tp ktp tl y1 y2 y3 bb kbb cbb tbb f_22 H.size (by omega) e_20 e_21 ubb) (cwV 0 hts gX4_read_X6_rewind rfl rfl rfl (by decide +kernel) ⟨Nat.le_of_ble_eq_true rfl, Nat.le_of_ble_eq_true rfl⟩) ⟨fun a U g mk q => by obtain ⟨q0, q1, qP, qK, qD⟩ := q; exact ⟨q0, q1, qP, va_K.moved (u := U) (U := U.calling g mk a) (Vm.Alike.refl U.vm) qK, qD⟩, va_recv hK hP (ci := 6) (q0 := ktp) rfl e_20, fun U hU hW => ⟨rfl, by rw [hU], by rw [hU]; exact hP, va_K.moved hW.alike hK, hD.weaken (fun _ _ _ _ => trivial)⟩⟩ rfl rfl hl.1 rfl (lv_room (Nat.le_of_ble_eq_true rfl)) dX4_read_19 ⟨Nat.le_of_ble_eq_true rfl, Nat.le_of_ble_eq_true rfl⟩) hS (fun q _ h => hFc q h) hFc (fun u t H1 locs ht hvm w_26 hB hz1 hk1 hS => ?_)
  obtain ⟨ws_27, ty_28, hm_29, ht_31, hP1, hK1, hD1, hx_30⟩ := hB
  rw [ht] at hP1
  have hK := va_K.moved hvm.symm hK1
  have hD := hD1.weaken (fun _ _ _ h => hFc _ h)
  generalize H1 = H at hP1 hS ⊢
  have hP := hP1
  have e_32 := hm_29.objK e_19 (by decide)
  obtain ⟨g_34, e_33, h_35⟩ := hm_29.obj e_20
  obtain ⟨z_36, z_37, z_38, z_39, rfl⟩ := smX6 h_35
  obtain ⟨f_41, e_40⟩ := hm_29.arrI e_21
  have u_42 := ht_31 _ _ ubb
  obtain ⟨f_44, e_43⟩ := hm_29.arrI e_23
  have u_45 := ht_31 _ _ ucd
  have hsm := hsm.tr (hm_29.mono (by decide))
  have htx := htx.tr ht_31
  obtain ⟨k_46, s_47, e_48, h_49, h_50, h_51, e_52⟩ := hx_30
  refine lv_aload_n hx hb dX4_read_22 rfl (lv_at hl 0 rfl) ?_
  have hFc := free_all hD hS hA
  refine va_calli (va_runV (As := []) (rest := []) ⟨hx, hb, hml, hown, hts⟩ (r_readName l D ws_27 ty_28 adK adV fo rd krd tp ktp cd bb tl  H.size (⟨s_47, e_48, 0, r1, r2, 0, (-1), r7, nI k_46, by omega, by omega, by omega, by omega, e_32, e_52, ⟨kcd, ccd, tcd, f_44, e_43, u_45⟩, ⟨kbb, cbb, tbb, f_41, e_40, u_42⟩⟩ : RS ws_27 ty_28 rd krd tp ktp cd bb tl)) (cwV 0 hts gX4_read_X4_readName rfl rfl rfl (by decide +kernel) ⟨Nat.le_of_ble_eq_true rfl, Nat.le_of_ble_eq_true rfl⟩) ⟨fun a U g mk q => by obtain ⟨q0, q1, qP, qK, qD, qS⟩ := q; exact ⟨q0, q1, qP, va_K.moved (u := U) (U := U.calling g mk a) (Vm.Alike.refl U.vm) qK, qD, SZ.same rfl rfl qS⟩, va_recv hK hP (ci := 4) (q0 := krd) rfl e_32, fun U hU hW => ⟨rfl, by rw [hU], by rw [hU]; exact hP, va_K.moved hW.alike hK, hD.weaken (fun _ _ _ _ => trivial), hsz9.go hS hW hU hFc⟩⟩ rfl rfl hl.1 rfl (lv_room (Nat.le_of_ble_eq_true rfl)) dX4_read_23 ⟨Nat.le_of_ble_eq_true rfl, Nat.le_of_ble_eq_true rfl⟩) hS (fun q _ h => hFc q h) hFc (fun r_53 u t H1 locs ht hvm w_54 hB hz1 hk1 hS => ?_)
  obtain ⟨ws_55, ty_56, hm_57, ht_59, hP1, hK1, hD1, hx_58⟩ := hB
  rw [ht] at hP1
  have hK := va_K.moved hvm.symm hK1
  have hD := hD1.weaken (fun _ _ _ h => hFc _ h)
  generalize H1 = H at hP1 hS ⊢
  have hP := hP1
  obtain ⟨g_61, e_60, h_62⟩ := hm_57.obj e_32
  obtain ⟨z_63, z_64, z_65, z_66, z_67, z_68, rfl⟩ := smX4 h_62
  obtain ⟨g_70, e_69, h_71⟩ := hm_57.obj e_52
  obtain ⟨z_72, z_73, z_74, z_75, rfl⟩ := smX6 h_71
  obtain ⟨f_77, e_76⟩ := hm_57.arrI e_40
  have u_78 := ht_59 _ _ u_42
  obtain ⟨f_80, e_79⟩ := hm_57.arrI e_43
  have u_81 := ht_59 _ _ u_45
  have hsm := hsm.tr (hm_57.mono (by decide))
  have htx := htx.tr ht_59
  obtain ⟨ts_82, te_83, cc_84, ra_85, rb_86, rc_87, rv_88, re_89, ya_90, h1_91, h2_92, h3_93, h4_94, er_95, et_96, ⟨k_97, c9_98, t_99, f_100, e_101, u_102⟩, ⟨k_103, c9_104, t_105, f_106, e_107, u_108⟩⟩ := id hx_58
  rcases w_54 with rfl | rfl
  · refine lv_if_eq (tgt := 46) hx hb dX4_read_26 (by decide) (fun c_109 => ?_) (fun c_109 => absurd (by decide) c_109)
    refine lv_iconst (v := 0) hx hb dX4_read_46 (by decide) ?_
    exact W.zret (v := 0) hx hb hr rfl (fun t ht hW => ⟨⟨0, (), rfl, Or.inl rfl, ws_55, ty_56, hsm, htx, by rw [ht]; exact hP, va_K.moved hW.alike hK, hD, (⟨ts_82, te_83, cc_84, ra_85, rb_86, rc_87, rv_88, re_89, ya_90, by omega, by omega, by omega, by omega, er_95, et_96, ⟨k_97, c9_98, t_99, f_100, e_101, u_102⟩, ⟨k_103, c9_104, t_105, f_106, e_107, u_108⟩⟩ : RS ws_55 ty_56 rd krd tp ktp cd bb tl)⟩, hS.F ht⟩) hS.2.2 dX4_read_47
  refine lv_if_eq (tgt := 46) hx hb dX4_read_26 (by decide) (fun c_110 => absurd c_110 (by decide)) (fun c_110 => ?_)
  refine lv_aload_n hx hb dX4_read_29 rfl (lv_at hl 0 rfl) ?_
  refine lv_bipush (v := 58) hx hb dX4_read_30 (by decide) ?_
  have hFc := free_all hD hS hA
  refine va_calli (va_runV (As := [.int 58]) (rest := []) ⟨hx, hb, hml, hown, hts⟩ (r_readByte l D ws_55 ty_56 adK adV fo rd krd tp ktp cd bb tl 58 H.size (⟨ts_82, te_83, cc_84, ra_85, rb_86, rc_87, rv_88, re_89, ya_90, by omega, by omega, by omega, by omega, er_95, et_96, ⟨k_97, c9_98, t_99, f_100, e_101, u_102⟩, ⟨k_103, c9_104, t_105, f_106, e_107, u_108⟩⟩ : RS ws_55 ty_56 rd krd tp ktp cd bb tl)) (cwV 1 hts gX4_read_X4_readByte rfl rfl rfl (by decide +kernel) ⟨Nat.le_of_ble_eq_true rfl, Nat.le_of_ble_eq_true rfl⟩) ⟨fun a U g mk q => by obtain ⟨q0, q1, qP, qK, qD, qS⟩ := q; exact ⟨q0, q1, qP, va_K.moved (u := U) (U := U.calling g mk a) (Vm.Alike.refl U.vm) qK, qD, SZ.same rfl rfl qS⟩, va_recv hK hP (ci := 4) (q0 := krd) rfl er_95, fun U hU hW => ⟨rfl, by rw [hU], by rw [hU]; exact hP, va_K.moved hW.alike hK, hD.weaken (fun _ _ _ _ => trivial), hsz9.go hS hW hU hFc⟩⟩ rfl rfl hl.1 rfl (lv_room (Nat.le_of_ble_eq_true rfl)) dX4_read_32 ⟨Nat.le_of_ble_eq_true rfl, Nat.le_of_ble_eq_true rfl⟩) hS (fun q _ h => hFc q h) hFc (fun r_111 u t H1 locs ht hvm w_112 hB hz1 hk1 hS => ?_)
  obtain ⟨ws_113, ty_114, hm_115, ht_117, hP1, hK1, hD1, hx_116⟩ := hB
  rw [ht] at hP1
  have hK := va_K.moved hvm.symm hK1
  have hD := hD1.weaken (fun _ _ _ h => hFc _ h)
  generalize H1 = H at hP1 hS ⊢
  have hP := hP1
  obtain ⟨g_119, e_118, h_120⟩ := hm_115.obj er_95
  obtain ⟨z_121, z_122, z_123, z_124, z_125, z_126, rfl⟩ := smX4 h_120
  obtain ⟨g_128, e_127, h_129⟩ := hm_115.obj et_96
  obtain ⟨z_130, z_131, z_132, z_133, rfl⟩ := smX6 h_129
  obtain ⟨f_135, e_134⟩ := hm_115.arrI e_101
  have u_136 := ht_117 _ _ u_102
  obtain ⟨f_138, e_137⟩ := hm_115.arrI e_107
  have u_139 := ht_117 _ _ u_108
  have hsm := hsm.tr (hm_115.mono (by decide))
  have htx := htx.tr ht_117
  obtain ⟨ts_140, te_141, cc_142, ra_143, rb_144, rc_145, rv_146, re_147, ya_148, h1_149, h2_150, h3_151, h4_152, er_153, et_154, ⟨k_155, c9_156, t_157, f_158, e_159, u_160⟩, ⟨k_161, c9_162, t_163, f_164, e_165, u_166⟩⟩ := id hx_116
  rcases w_112 with rfl | rfl
  · refine lv_if_eq (tgt := 46) hx hb dX4_read_35 (by decide) (fun c_167 => ?_) (fun c_167 => absurd (by decide) c_167)
    refine lv_iconst (v := 0) hx hb dX4_read_46 (by decide) ?_
    exact W.zret (v := 0) hx hb hr rfl (fun t ht hW => ⟨⟨0, (), rfl, Or.inl rfl, ws_113, ty_114, hsm, htx, by rw [ht]; exact hP, va_K.moved hW.alike hK, hD, (⟨ts_140, te_141, cc_142, ra_143, rb_144, rc_145, rv_146, re_147, ya_148, by omega, by omega, by omega, by omega, er_153, et_154, ⟨k_155, c9_156, t_157, f_158, e_159, u_160⟩, ⟨k_161, c9_162, t_163, f_164, e_165, u_166⟩⟩ : RS ws_113 ty_114 rd krd tp ktp cd bb tl)⟩, hS.F ht⟩) hS.2.2 dX4_read_47
  refine lv_if_eq (tgt := 46) hx hb dX4_read_35 (by decide) (fun c_168 => absurd c_168 (by decide)) (fun c_168 => ?_)
  refine lv_aload_n hx hb dX4_read_38 rfl (lv_at hl 0 rfl) ?_
  refine lv_iconst (v := 0) hx hb dX4_read_39 (by decide) ?_
  have hFc := free_all hD hS hA
  refine va_calli (va_runV (As := [.int 0]) (rest := []) ⟨hx, hb, hml, hown, hts⟩ (r_readEither0 l D ws_113 ty_114 adK adV fo rd krd tp ktp cd bb tl  H.size (⟨ts_140, te_141, cc_142, ra_143, rb_144, rc_145, rv_146, re_147, ya_148, by omega, by omega, by omega, by omega, er_153, et_154, ⟨k_155, c9_156, t_157, f_158, e_159, u_160⟩, ⟨k_161, c9_162, t_163, f_164, e_165, u_166⟩⟩ : RS ws_113 ty_114 rd krd tp ktp cd bb tl)) (cwV 1 hts gX4_read_X4_readEither rfl rfl rfl (by decide +kernel) ⟨Nat.le_of_ble_eq_true rfl, Nat.le_of_ble_eq_true rfl⟩) ⟨fun a U g mk q => by obtain ⟨q0, q1, qP, qK, qD, qS⟩ := q; exact ⟨q0, q1, qP, va_K.moved (u := U) (U := U.calling g mk a) (Vm.Alike.refl U.vm) qK, qD, SZ.same rfl rfl qS⟩, va_recv hK hP (ci := 4) (q0 := krd) rfl er_153, fun U hU hW => ⟨rfl, by rw [hU], by rw [hU]; exact hP, va_K.moved hW.alike hK, hD.weaken (fun _ _ _ _ => trivial), hsz9.go hS hW hU hFc⟩⟩ rfl rfl hl.1 rfl (lv_room (Nat.le_of_ble_eq_true rfl)) dX4_read_40 ⟨Nat.le_of_ble_eq_true rfl, Nat.le_of_ble_eq_true rfl⟩) hS (fun q _ h => hFc q h) hFc (fun r_169 u t H1 locs ht hvm w_170 hB hz1 hk1 hS => ?_)
  obtain ⟨ws_171, ty_172, hm_173, ht_175, hP1, hK1, hD1, hx_174⟩ := hB
  rw [ht] at hP1
  have hK := va_K.moved hvm.symm hK1
  have hD := hD1.weaken (fun _ _ _ h => hFc _ h)
  generalize H1 = H at hP1 hS ⊢
  have hP := hP1
  obtain ⟨g_177, e_176, h_178⟩ := hm_173.obj er_153
  obtain ⟨z_179, z_180, z_181, z_182, z_183, z_184, rfl⟩ := smX4 h_178
  obtain ⟨g_186, e_185, h_187⟩ := hm_173.obj et_154
  obtain ⟨z_188, z_189, z_190, z_191, rfl⟩ := smX6 h_187
  obtain ⟨f_193, e_192⟩ := hm_173.arrI e_159
  have u_194 := ht_175 _ _ u_160
  obtain ⟨f_196, e_195⟩ := hm_173.arrI e_165
  have u_197 := ht_175 _ _ u_166
  have hsm := hsm.tr (hm_173.mono (by decide))
  have htx := htx.tr ht_175
  obtain ⟨ts_198, te_199, cc_200, ra_201, rb_202, rc_203, rv_204, re_205, ya_206, h1_207, h2_208, h3_209, h4_210, er_211, et_212, ⟨k_213, c9_214, t_215, f_216, e_217, u_218⟩, ⟨k_219, c9_220, t_221, f_222, e_223, u_224⟩⟩ := id hx_174
  rcases w_170 with rfl | rfl
  · refine lv_if_ne (tgt := 48) hx hb dX4_read_43 (by decide) (fun c_225 => absurd (by decide) c_225) (fun c_225 => ?_)
    refine lv_iconst (v := 0) hx hb dX4_read_46 (by decide) ?_
    exact W.zret (v := 0) hx hb hr rfl (fun t ht hW => ⟨⟨0, (), rfl, Or.inl rfl, ws_171, ty_172, hsm, htx, by rw [ht]; exact hP, va_K.moved hW.alike hK, hD, (⟨ts_198, te_199, cc_200, ra_201, rb_202, rc_203, rv_204, re_205, ya_206, by omega, by omega, by omega, by omega, er_211, et_212, ⟨k_213, c9_214, t_215, f_216, e_217, u_218⟩, ⟨k_219, c9_220, t_221, f_222, e_223, u_224⟩⟩ : RS ws_171 ty_172 rd krd tp ktp cd bb tl)⟩, hS.F ht⟩) hS.2.2 dX4_read_47
  refine lv_if_ne (tgt := 48) hx hb dX4_read_43 (by decide) (fun c_226 => ?_) (fun c_226 => absurd c_226 (by decide))
  refine lv_aload_n hx hb dX4_read_48 rfl (lv_at hl 0 rfl) ?_
  refine va_ldcS hx hb hown hsz9.2.2.2.1 dX4_read_49 ?_
  have hFc := free_all hD hS hA
  refine va_calli (va_runV (As := [.ref (adK 0)]) (rest := []) ⟨hx, hb, hml, hown, hts⟩ (r_readWord l D ws_171 ty_172 adK adV fo rd krd tp ktp cd bb tl 0 H.size (⟨ts_198, te_199, cc_200, ra_201, rb_202, rc_203, rv_204, re_205, ya_206, by omega, by omega, by omega, by omega, er_211, et_212, ⟨k_213, c9_214, t_215, f_216, e_217, u_218⟩, ⟨k_219, c9_220, t_221, f_222, e_223, u_224⟩⟩ : RS ws_171 ty_172 rd krd tp ktp cd bb tl) (by decide)) (cwV 1 hts gX4_read_X4_readWord rfl rfl rfl (by decide +kernel) ⟨Nat.le_of_ble_eq_true rfl, Nat.le_of_ble_eq_true rfl⟩) ⟨fun a U g mk q => by obtain ⟨q0, q1, qP, qK, qD, qS⟩ := q; exact ⟨q0, q1, qP, va_K.moved (u := U) (U := U.calling g mk a) (Vm.Alike.refl U.vm) qK, qD, SZ.same rfl rfl qS⟩, va_recv hK hP (ci := 4) (q0 := krd) rfl er_211, fun U hU hW => ⟨rfl, by rw [hU], by rw [hU]; exact hP, va_K.moved hW.alike hK, hD.weaken (fun _ _ _ _ => trivial), hsz9.go hS hW hU hFc⟩⟩ rfl rfl hl.1 rfl (lv_room (Nat.le_of_ble_eq_true rfl)) dX4_read_51 ⟨Nat.le_of_ble_eq_true rfl, Nat.le_of_ble_eq_true rfl⟩) hS (fun q _ h => hFc q h) hFc (fun r_227 u t H1 locs ht hvm w_228 hB hz1 hk1 hS => ?_)
  obtain ⟨ws_229, ty_230, hm_231, ht_233, hP1, hK1, hD1, hx_232⟩ := hB
  rw [ht] at hP1
  have hK := va_K.moved hvm.symm hK1
  have hD := hD1.weaken (fun _ _ _ h => hFc _ h)
  generalize H1 = H at hP1 hS ⊢
  have hP := hP1
  obtain ⟨g_235, e_234, h_236⟩ := hm_231.obj er_211
  obtain ⟨z_237, z_238, z_239, z_240, z_241, z_242, rfl⟩ := smX4 h_236
  obtain ⟨g_244, e_243, h_245⟩ := hm_231.obj et_212
  obtain ⟨z_246, z_247, z_248, z_249, rfl⟩ := smX6 h_245
  obtain ⟨f_251, e_250⟩ := hm_231.arrI e_217
  have u_252 := ht_233 _ _ u_218
  obtain ⟨f_254, e_253⟩ := hm_231.arrI e_223
  have u_255 := ht_233 _ _ u_224
  have hsm := hsm.tr (hm_231.mono (by decide))
  have htx := htx.tr ht_233
  obtain ⟨ts_256, te_257, cc_258, ra_259, rb_260, rc_261, rv_262, re_263, ya_264, h1_265, h2_266, h3_267, h4_268, er_269, et_270, ⟨k_271, c9_272, t_273, f_274, e_275, u_276⟩, ⟨k_277, c9_278, t_279, f_280, e_281, u_282⟩⟩ := id hx_232
  rcases w_228 with rfl | rfl
  · refine lv_if_eq (tgt := 67) hx hb dX4_read_54 (by decide) (fun c_283 => ?_) (fun c_283 => absurd (by decide) c_283)
    refine lv_iconst (v := 0) hx hb dX4_read_67 (by decide) ?_
    exact W.zret (v := 0) hx hb hr rfl (fun t ht hW => ⟨⟨0, (), rfl, Or.inl rfl, ws_229, ty_230, hsm, htx, by rw [ht]; exact hP, va_K.moved hW.alike hK, hD, (⟨ts_256, te_257, cc_258, ra_259, rb_260, rc_261, rv_262, re_263, ya_264, by omega, by omega, by omega, by omega, er_269, et_270, ⟨k_271, c9_272, t_273, f_274, e_275, u_276⟩, ⟨k_277, c9_278, t_279, f_280, e_281, u_282⟩⟩ : RS ws_229 ty_230 rd krd tp ktp cd bb tl)⟩, hS.F ht⟩) hS.2.2 dX4_read_68
  refine lv_if_eq (tgt := 67) hx hb dX4_read_54 (by decide) (fun c_284 => absurd c_284 (by decide)) (fun c_284 => ?_)
  refine lv_aload_n hx hb dX4_read_57 rfl (lv_at hl 0 rfl) ?_
  refine lv_sipush (v := 30000) hx hb dX4_read_58 (by decide) ?_
  have hFc := free_all hD hS hA
  refine va_calli (va_runV (As := [.int 30000]) (rest := []) ⟨hx, hb, hml, hown, hts⟩ (r_readNumber l D ws_229 ty_230 adK adV fo rd krd tp ktp cd bb tl 30000 H.size (⟨ts_256, te_257, cc_258, ra_259, rb_260, rc_261, rv_262, re_263, ya_264, by omega, by omega, by omega, by omega, er_269, et_270, ⟨k_271, c9_272, t_273, f_274, e_275, u_276⟩, ⟨k_277, c9_278, t_279, f_280, e_281, u_282⟩⟩ : RS ws_229 ty_230 rd krd tp ktp cd bb tl)) (cwV 1 hts gX4_read_X4_readNumber rfl rfl rfl (by decide +kernel) ⟨Nat.le_of_ble_eq_true rfl, Nat.le_of_ble_eq_true rfl⟩) ⟨fun a U g mk q => by obtain ⟨q0, q1, qP, qK, qD, qS⟩ := q; exact ⟨q0, q1, qP, va_K.moved (u := U) (U := U.calling g mk a) (Vm.Alike.refl U.vm) qK, qD, SZ.same rfl rfl qS⟩, va_recv hK hP (ci := 4) (q0 := krd) rfl er_269, fun U hU hW => ⟨rfl, by rw [hU], by rw [hU]; exact hP, va_K.moved hW.alike hK, hD.weaken (fun _ _ _ _ => trivial), hsz9.go hS hW hU hFc⟩⟩ rfl rfl hl.1 rfl (lv_room (Nat.le_of_ble_eq_true rfl)) dX4_read_61 ⟨Nat.le_of_ble_eq_true rfl, Nat.le_of_ble_eq_true rfl⟩) hS (fun q _ h => hFc q h) hFc (fun r_285 u t H1 locs ht hvm w_286 hB hz1 hk1 hS => ?_)
  obtain ⟨ws_287, ty_288, hm_289, ht_291, hP1, hK1, hD1, hx_290⟩ := hB
  rw [ht] at hP1
  have hK := va_K.moved hvm.symm hK1
  have hD := hD1.weaken (fun _ _ _ h => hFc _ h)
  generalize H1 = H at hP1 hS ⊢
  have hP := hP1
  obtain ⟨g_293, e_292, h_294⟩ := hm_289.obj er_269
  obtain ⟨z_295, z_296, z_297, z_298, z_299, z_300, rfl⟩ := smX4 h_294
  obtain ⟨g_302, e_301, h_303⟩ := hm_289.obj et_270
  obtain ⟨z_304, z_305, z_306, z_307, rfl⟩ := smX6 h_303
  obtain ⟨f_309, e_308⟩ := hm_289.arrI e_275
  have u_310 := ht_291 _ _ u_276
  obtain ⟨f_312, e_311⟩ := hm_289.arrI e_281
  have u_313 := ht_291 _ _ u_282
  have hsm := hsm.tr (hm_289.mono (by decide))
  have htx := htx.tr ht_291
  obtain ⟨ts_314, te_315, cc_316, ra_317, rb_318, rc_319, rv_320, re_321, ya_322, h1_323, h2_324, h3_325, h4_326, er_327, et_328, ⟨k_329, c9_330, t_331, f_332, e_333, u_334⟩, ⟨k_335, c9_336, t_337, f_338, e_339, u_340⟩⟩ := id hx_290
  rcases w_286 with rfl | rfl
  · refine lv_if_ne (tgt := 69) hx hb dX4_read_64 (by decide) (fun c_341 => absurd (by decide) c_341) (fun c_341 => ?_)
    refine lv_iconst (v := 0) hx hb dX4_read_67 (by decide) ?_
    exact W.zret (v := 0) hx hb hr rfl (fun t ht hW => ⟨⟨0, (), rfl, Or.inl rfl, ws_287, ty_288, hsm, htx, by rw [ht]; exact hP, va_K.moved hW.alike hK, hD, (⟨ts_314, te_315, cc_316, ra_317, rb_318, rc_319, rv_320, re_321, ya_322, by omega, by omega, by omega, by omega, er_327, et_328, ⟨k_329, c9_330, t_331, f_332, e_333, u_334⟩, ⟨k_335, c9_336, t_337, f_338, e_339, u_340⟩⟩ : RS ws_287 ty_288 rd krd tp ktp cd bb tl)⟩, hS.F ht⟩) hS.2.2 dX4_read_68
  refine lv_if_ne (tgt := 69) hx hb dX4_read_64 (by decide) (fun c_342 => ?_) (fun c_342 => absurd c_342 (by decide))
  refine lv_aload_n hx hb dX4_read_69 rfl (lv_at hl 0 rfl) ?_
  refine lv_aload_n hx hb dX4_read_70 rfl (lv_at hl 0 rfl) ?_
  refine va_get (D := D) (ci := 4) (v := .int re_321) (C := RX4) (T := TX4) (N := 8) hx hb hts hin4 hown hK hP krd er_327 rfl 7 (by decide) (hts (.fieldLink RX4 56 "HoneyHouse$RuleReader" "value" "I") (List.mem_of_getElem? (i := 5) rfl)) (fun _ h9 => h9) rfl dX4_read_71 ?_
  refine va_put (D := D) (ci := 4) (v := .int re_321) (ty := .int) (C := RX4) (T := TX4) (N := 8) hx hb hts hin4 tyX4 tyX4_ok nmX4 hown hK hP hD hS krd er_327 rfl 2 (by decide) (hts (.fieldLink RX4 59 "HoneyHouse$RuleReader" "from" "I") (List.mem_of_getElem? (i := 6) rfl)) (fun _ h9 => h9) rfl (tyX4_ok 2 (by decide)) rfl rfl (Nat.le_of_ble_eq_true rfl) dX4_read_74 (fun H locs hP hD hS => ?_)
  have hP : va_P D vwCl (ws_287.set krd (rd, .inr (4, [.ref tp, .long ra_317, .int re_321, .int rc_319, .int rv_320, .ref cd, .int (nI cc_316), .int re_321]))) H := hP
  have hD : va_D A (ws_287.set krd (rd, .inr (4, [.ref tp, .long ra_317, .int re_321, .int rc_319, .int rv_320, .ref cd, .int (nI cc_316), .int re_321]))) := hD
  have hm_344 : sm [4] ws_287 (ws_287.set krd (rd, .inr (4, [.ref tp, .long ra_317, .int re_321, .int rc_319, .int rv_320, .ref cd, .int (nI cc_316), .int re_321]))) := sm.flds er_327 (smF.c (smV.rf _) (smF.c (smV.rf _) (smF.c (smV.i _ _) (smF.c (smV.rf _) (smF.c (smV.rf _) (smF.c (smV.rf _) (smF.c (smV.rf _) (smF.c (smV.rf _) (rfl))))))))) (List.mem_singleton.mpr rfl)
  have e_345 : (ws_287.set krd (rd, .inr (4, [.ref tp, .long ra_317, .int re_321, .int rc_319, .int rv_320, .ref cd, .int (nI cc_316), .int re_321])))[krd]? = some (rd, .inr (4, [.ref tp, .long ra_317, .int re_321, .int rc_319, .int rv_320, .ref cd, .int (nI cc_316), .int re_321])) := wset_self er_327
  generalize ws_287.set krd (rd, .inr (4, [.ref tp, .long ra_317, .int re_321, .int rc_319, .int rv_320, .ref cd, .int (nI cc_316), .int re_321])) = ws_343 at hP hD hm_344 e_345
  have e_346 := hm_344.objK et_328 (by decide)
  obtain ⟨f_348, e_347⟩ := hm_344.arrI e_333
  obtain ⟨f_350, e_349⟩ := hm_344.arrI e_339
  have hsm := hsm.tr (hm_344.mono (by decide))
  refine lv_aload_n hx hb dX4_read_77 rfl (lv_at hl 0 rfl) ?_
  refine lv_bipush (v := 59) hx hb dX4_read_78 (by decide) ?_
  have hFc := free_all hD hS hA
  refine va_calli (va_runV (As := [.int 59]) (rest := []) ⟨hx, hb, hml, hown, hts⟩ (r_readByte l D ws_343 ty_288 adK adV fo rd krd tp ktp cd bb tl 59 H.size (⟨ts_314, te_315, cc_316, ra_317, re_321, rc_319, rv_320, re_321, ya_322, by omega, by omega, by omega, by omega, e_345, e_346, ⟨k_329, c9_330, t_331, f_348, e_347, u_334⟩, ⟨k_335, c9_336, t_337, f_350, e_349, u_340⟩⟩ : RS ws_343 ty_288 rd krd tp ktp cd bb tl)) (cwV 1 hts gX4_read_X4_readByte rfl rfl rfl (by decide +kernel) ⟨Nat.le_of_ble_eq_true rfl, Nat.le_of_ble_eq_true rfl⟩) ⟨fun a U g mk q => by obtain ⟨q0, q1, qP, qK, qD, qS⟩ := q; exact ⟨q0, q1, qP, va_K.moved (u := U) (U := U.calling g mk a) (Vm.Alike.refl U.vm) qK, qD, SZ.same rfl rfl qS⟩, va_recv hK hP (ci := 4) (q0 := krd) rfl e_345, fun U hU hW => ⟨rfl, by rw [hU], by rw [hU]; exact hP, va_K.moved hW.alike hK, hD.weaken (fun _ _ _ _ => trivial), hsz9.go hS hW hU hFc⟩⟩ rfl rfl hl.1 rfl (lv_room (Nat.le_of_ble_eq_true rfl)) dX4_read_80 ⟨Nat.le_of_ble_eq_true rfl, Nat.le_of_ble_eq_true rfl⟩) hS (fun q _ h => hFc q h) hFc (fun r_351 u t H1 locs ht hvm w_352 hB hz1 hk1 hS => ?_)
  obtain ⟨ws_353, ty_354, hm_355, ht_357, hP1, hK1, hD1, hx_356⟩ := hB
  rw [ht] at hP1
  have hK := va_K.moved hvm.symm hK1
  have hD := hD1.weaken (fun _ _ _ h => hFc _ h)
  generalize H1 = H at hP1 hS ⊢
  have hP := hP1
  obtain ⟨g_359, e_358, h_360⟩ := hm_355.obj e_345
  obtain ⟨z_361, z_362, z_363, z_364, z_365, z_366, rfl⟩ := smX4 h_360
  obtain ⟨g_368, e_367, h_369⟩ := hm_355.obj e_346
  obtain ⟨z_370, z_371, z_372, z_373, rfl⟩ := smX6 h_369
  obtain ⟨f_375, e_374⟩ := hm_355.arrI e_347
  have u_376 := ht_357 _ _ u_334
  obtain ⟨f_378, e_377⟩ := hm_355.arrI e_349
  have u_379 := ht_357 _ _ u_340
  have hsm := hsm.tr (hm_355.mono (by decide))
  have htx := htx.tr ht_357
  obtain ⟨ts_380, te_381, cc_382, ra_383, rb_384, rc_385, rv_386, re_387, ya_388, h1_389, h2_390, h3_391, h4_392, er_393, et_394, ⟨k_395, c9_396, t_397, f_398, e_399, u_400⟩, ⟨k_401, c9_402, t_403, f_404, e_405, u_406⟩⟩ := id hx_356
  rcases w_352 with rfl | rfl
  · refine lv_if_eq (tgt := 107) hx hb dX4_read_83 (by decide) (fun c_407 => ?_) (fun c_407 => absurd (by decide) c_407)
    refine lv_iconst (v := 0) hx hb dX4_read_107 (by decide) ?_
    exact W.zret (v := 0) hx hb hr rfl (fun t ht hW => ⟨⟨0, (), rfl, Or.inl rfl, ws_353, ty_354, hsm, htx, by rw [ht]; exact hP, va_K.moved hW.alike hK, hD, (⟨ts_380, te_381, cc_382, ra_383, rb_384, rc_385, rv_386, re_387, ya_388, by omega, by omega, by omega, by omega, er_393, et_394, ⟨k_395, c9_396, t_397, f_398, e_399, u_400⟩, ⟨k_401, c9_402, t_403, f_404, e_405, u_406⟩⟩ : RS ws_353 ty_354 rd krd tp ktp cd bb tl)⟩, hS.F ht⟩) hS.2.2 dX4_read_108
  refine lv_if_eq (tgt := 107) hx hb dX4_read_83 (by decide) (fun c_408 => absurd c_408 (by decide)) (fun c_408 => ?_)
  refine lv_aload_n hx hb dX4_read_86 rfl (lv_at hl 0 rfl) ?_
  refine va_get (D := D) (ci := 4) (v := .ref tp) (C := RX4) (T := TX4) (N := 8) hx hb hts hin4 hown hK hP krd er_393 rfl 0 (by decide) (hts (.fieldLink RX4 12 "HoneyHouse$RuleReader" "tape" "LHoneyHouse$Tape;") (List.mem_of_getElem? (i := 4) rfl)) (fun _ h9 => h9) rfl dX4_read_87 ?_
  refine va_get (D := D) (ci := 6) (v := .int ya_388) (C := RX6) (T := TX6) (N := 5) hx hb hts hin6 hown hK hP ktp et_394 rfl 1 (by decide) (hts (.fieldLink RX4 61 "HoneyHouse$Tape" "kind" "I") (List.mem_of_getElem? (i := 7) rfl)) (fun _ h9 => h9) rfl dX4_read_90 ?_
  refine lv_if_eq (tgt := 103) hx hb dX4_read_93 (by decide) (fun c_409 => ?_) (fun c_409 => ?_)
  · refine lv_iconst (v := 1) hx hb dX4_read_103 (by decide) ?_
    refine lv_goto (tgt := 108) hx hb dX4_read_104 (by decide) ?_
    exact W.zret (v := 1) hx hb hr rfl (fun t ht hW => ⟨⟨1, (), rfl, Or.inr rfl, ws_353, ty_354, hsm, htx, by rw [ht]; exact hP, va_K.moved hW.alike hK, hD, (⟨ts_380, te_381, cc_382, ra_383, rb_384, rc_385, rv_386, re_387, ya_388, by omega, by omega, by omega, by omega, er_393, et_394, ⟨k_395, c9_396, t_397, f_398, e_399, u_400⟩, ⟨k_401, c9_402, t_403, f_404, e_405, u_406⟩⟩ : RS ws_353 ty_354 rd krd tp ktp cd bb tl)⟩, hS.F ht⟩) hS.2.2 dX4_read_108
  refine lv_aload_n hx hb dX4_read_96 rfl (lv_at hl 0 rfl) ?_
  have hFc := free_all hD hS hA
  refine va_calli (va_runV (As := []) (rest := []) ⟨hx, hb, hml, hown, hts⟩ (r_failHere l D ws_353 ty_354 adK adV fo rd krd tp ktp cd bb tl  H.size (⟨ts_380, te_381, cc_382, ra_383, rb_384, rc_385, rv_386, re_387, ya_388, by omega, by omega, by omega, by omega, er_393, et_394, ⟨k_395, c9_396, t_397, f_398, e_399, u_400⟩, ⟨k_401, c9_402, t_403, f_404, e_405, u_406⟩⟩ : RS ws_353 ty_354 rd krd tp ktp cd bb tl)) (cwV 0 hts gX4_read_X4_failHere rfl rfl rfl (by decide +kernel) ⟨Nat.le_of_ble_eq_true rfl, Nat.le_of_ble_eq_true rfl⟩) ⟨fun a U g mk q => by obtain ⟨q0, q1, qP, qK, qD, qS⟩ := q; exact ⟨q0, q1, qP, va_K.moved (u := U) (U := U.calling g mk a) (Vm.Alike.refl U.vm) qK, qD, SZ.same rfl rfl qS⟩, va_recv hK hP (ci := 4) (q0 := krd) rfl er_393, fun U hU hW => ⟨rfl, by rw [hU], by rw [hU]; exact hP, va_K.moved hW.alike hK, hD.weaken (fun _ _ _ _ => trivial), hsz9.go hS hW hU hFc⟩⟩ rfl rfl hl.1 rfl (lv_room (Nat.le_of_ble_eq_true rfl)) dX4_read_97 ⟨Nat.le_of_ble_eq_true rfl, Nat.le_of_ble_eq_true rfl⟩) hS (fun q _ h => hFc q h) hFc (fun r_410 u t H1 locs ht hvm w_411 hB hz1 hk1 hS => ?_)
  obtain ⟨ws_412, ty_413, hm_414, ht_416, hP1, hK1, hD1, hx_415⟩ := hB
  rw [ht] at hP1
  have hK := va_K.moved hvm.symm hK1
  have hD := hD1.weaken (fun _ _ _ h => hFc _ h)
  generalize H1 = H at hP1 hS ⊢
  have hP := hP1
  obtain ⟨g_418, e_417, h_419⟩ := hm_414.obj er_393
  obtain ⟨z_420, z_421, z_422, z_423, z_424, z_425, rfl⟩ := smX4 h_419
  obtain ⟨g_427, e_426, h_428⟩ := hm_414.obj et_394
  obtain ⟨z_429, z_430, z_431, z_432, rfl⟩ := smX6 h_428
  obtain ⟨f_434, e_433⟩ := hm_414.arrI e_399
  have u_435 := ht_416 _ _ u_400
  obtain ⟨f_437, e_436⟩ := hm_414.arrI e_405
  have u_438 := ht_416 _ _ u_406
  have hsm := hsm.tr (hm_414.mono (by decide))
  have htx := htx.tr ht_416
  obtain ⟨ts_439, te_440, cc_441, ra_442, rb_443, rc_444, rv_445, re_446, ya_447, h1_448, h2_449, h3_450, h4_451, er_452, et_453, ⟨k_454, c9_455, t_456, f_457, e_458, u_459⟩, ⟨k_460, c9_461, t_462, f_463, e_464, u_465⟩⟩ := id hx_415
  subst w_411
  refine lv_if_eq (tgt := 107) hx hb dX4_read_100 (by decide) (fun c_466 => ?_) (fun c_466 => absurd (by decide) c_466)
  refine lv_iconst (v := 0) hx hb dX4_read_107 (by decide) ?_
  exact W.zret (v := 0) hx hb hr rfl (fun t ht hW => ⟨⟨0, (), rfl, Or.inl rfl, ws_412, ty_413, hsm, htx, by rw [ht]; exact hP, va_K.moved hW.alike hK, hD, (⟨ts_439, te_440, cc_441, ra_442, rb_443, rc_444, rv_445, re_446, ya_447, by omega, by omega, by omega, by omega, er_452, et_453, ⟨k_454, c9_455, t_456, f_457, e_458, u_459⟩, ⟨k_460, c9_461, t_462, f_463, e_464, u_465⟩⟩ : RS ws_412 ty_413 rd krd tp ktp cd bb tl)⟩, hS.F ht⟩) hS.2.2 dX4_read_108
